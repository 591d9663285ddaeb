theorem sw_m_acn : Cond.native arraycopyName ∈ sw_gt := sw_mem_at 423 (by decide +kernel) (by decide +kernel)
theorem sw_m_acs : Cond.static arraycopyName ∈ sw_gt := sw_mem_at 422 (by decide +kernel) (by decide +kernel)
theorem sw_m_sys : Cond.initialized "java/lang/System" ∈ sw_gt := sw_mem_at 94 (by decide +kernel) (by decide +kernel)
theorem sw_m_math : Cond.initialized "java/lang/Math" ∈ sw_gt := sw_mem_at 96 (by decide +kernel) (by decide +kernel)
theorem sw_m_abs_s : Cond.static Lib.Math.abs.name ∈ sw_gt := sw_mem_at 568 (by decide +kernel) (by decide +kernel)
theorem sw_m_abs_c : Cond.code Lib.Math.abs.name Lib.Math.abs.code 1 (some .int) ∈ sw_gt := sw_mem_at 569 (by decide +kernel) (by decide +kernel)
theorem sw_m_max_s : Cond.static Lib.Math.max.name ∈ sw_gt := sw_mem_at 571 (by decide +kernel) (by decide +kernel)
theorem sw_m_max_c : Cond.code Lib.Math.max.name Lib.Math.max.code 2 (some .int) ∈ sw_gt := sw_mem_at 572 (by decide +kernel) (by decide +kernel)
theorem sw_m_min_s : Cond.static Lib.Math.min.name ∈ sw_gt := sw_mem_at 553 (by decide +kernel) (by decide +kernel)
theorem sw_m_min_c : Cond.code Lib.Math.min.name Lib.Math.min.code 2 (some .int) ∈ sw_gt := sw_mem_at 554 (by decide +kernel) (by decide +kernel)
theorem sw_okF_i {fin : Bool} {kinds : List Nat} {o pc : Nat} {zs : List Int} {ns : List Nat} (h : sw_okF fin kinds o pc zs ns = true) : ∃ q : vw_C, vwCl[sw_n ns 1]? = some q ∧ Cond.fieldLink (sw_cn o) (sw_n ns 0) (q.2.1 (sw_n ns 2)).1 (q.2.1 (sw_n ns 2)).2.1 (q.2.1 (sw_n ns 2)).2.2.1 ∈ sw_gt ∧ sw_n ns 2 < q.2.2 ∧ q.2.2 = sw_nf (sw_n ns 1) ∧ (fin = true ∨ (q.2.1 (sw_n ns 2)).2.2.2 = false) ∧ sw_fk (sw_n ns 1) (sw_n ns 2) ∈ kinds := by
  unfold sw_okF at h
  split at h
  · rename_i q hq
    simp only [Bool.and_eq_true, Bool.or_eq_true, decide_eq_true_eq, Bool.not_eq_true', List.contains_iff_mem] at h
    exact ⟨q, hq, sw_w_mem h.1.1.1, h.1.1.2.1, h.1.1.2.2, h.1.2, h.2⟩
  · cases h
theorem sw_cl_lt {ci : Nat} {q : vw_C} (h : vwCl[ci]? = some q) : ci < 10 := (List.getElem?_eq_some_iff.mp h).1
theorem sw_s53 : sw_Snd 53 := by
  intro p l e R s m args below meth c cells slots Q o cc nL ad G D A M0 d X pc len zs ns hdg hok hlen l0 ls st M H locs hS hl q hop
  obtain ⟨hx, hb, hml, hown, hts, hK, hA, hRO, hf, hlo, hce, hsl⟩ := X
  obtain rfl : len = 3 := sw_len1 53 3 hlen rfl (by decide)
  have hdg : decode cc pc = .ok (.getfield (sw_n ns 0), 3) := hdg
  have hop : (sw_oGetf) pc 3 zs ns ls st M = some q := hop
  obtain ⟨ob, st1, rfl, hk, rfl⟩ := sw_oGetf_i hop
  refine ⟨_, _, _, _, rfl, fun kk => ?_⟩
  obtain ⟨cq, hc, hlink, hj, hN, -, -⟩ := sw_okF_i (pc := pc) (zs := zs) hok
  have h10 := sw_cl_lt hc
  have hob := sw_kd_lt (k := ob) (by omega)
  refine va_get (own := sw_cn o) (ref := (cq.2.1 (sw_n ns 2)).1) (C := cq.1) (T := cq.2.1) (N := cq.2.2) (ci := sw_n ns 1) (v := sw_fv ad ob (M ob) (sw_n ns 2)) hx hb hts (sw_clok _ _ hc).1 hown hK hS.1 ob (sw_at hob (sw_ec_obj hk h10)) hc (sw_n ns 2) hj (hts _ hlink) (fun _ h => h) (sw_fs_get (by omega)) hdg ?_
  rw [← sw_gf_cv hk]
  exact kk _ _ _ hS hl
theorem sw_bool_nar {v : Int32} (h : v = 0 ∨ v = 1) : narrow .boolean (.int v) = .int v ∧ fits .boolean (.int v) = true ∧ vp_nar .boolean v = v := by rcases h with rfl | rfl <;> decide
theorem sw_s54 : sw_Snd 54 := by
  intro p l e R s m args below meth c cells slots Q o cc nL ad G D A M0 d X pc len zs ns hdg hok hlen l0 ls st M H locs hS hl q hop
  obtain ⟨hx, hb, hml, hown, hts, hK, hA, hRO, hf, hlo, hce, hsl⟩ := X
  obtain rfl : len = 3 := sw_len1 54 3 hlen rfl (by decide)
  have hdg : decode cc pc = .ok (.putfield (sw_n ns 0), 3) := hdg
  have hop : (sw_oPutf) pc 3 zs ns ls st M = some q := hop
  obtain ⟨v, ob, st1, rfl, hk, rfl⟩ := sw_oPutf_i hop
  refine ⟨_, _, _, _, rfl, fun kk => ?_⟩
  obtain ⟨cq, hc, hlink, hj, hN, hfin, hkind⟩ := sw_okF_i (pc := pc) (zs := zs) hok
  have h10 := sw_cl_lt hc
  have hob := sw_kd_lt (k := ob) (by omega)
  have hkd : sw_fk (sw_n ns 1) (sw_n ns 2) = 0 := by simpa using hkind
  obtain ⟨-, ⟨ty0, hty⟩, hnm⟩ := sw_clok _ _ hc
  have hin := (sw_clok _ _ hc).1
  refine va_put (own := sw_cn o) (ref := (cq.2.1 (sw_n ns 2)).1) (C := cq.1) (T := cq.2.1) (N := cq.2.2) (ci := sw_n ns 1) (v := .int v) hx hb hts hin ty0 hty hnm hown hK hS.1 hS.2.1 hS.2.2.1 ob (sw_at hob (sw_ec_obj hk h10)) hc (sw_n ns 2) hj (hts _ hlink) (fun _ h => h) (hfin.resolve_left (by decide)) ((sw_fty0 _ _ hc _ hj).1 hkd) rfl rfl (by simp; omega) hdg (fun H1 locs1 hP1 hD1 hS1 => ?_)
  exact kk _ _ _ (sw_S_set hS hob ((sw_ec_obj hk h10).trans (congrArg (fun z => Sum.inr (sw_n ns 1, z)) (sw_fs_set (x := v) hk (by omega) (by simp [hkd])))) hP1 hD1 hS1) hl
theorem sw_s55 : sw_Snd 55 := by
  intro p l e R s m args below meth c cells slots Q o cc nL ad G D A M0 d X pc len zs ns hdg hok hlen l0 ls st M H locs hS hl q hop
  obtain ⟨hx, hb, hml, hown, hts, hK, hA, hRO, hf, hlo, hce, hsl⟩ := X
  obtain rfl : len = 3 := sw_len1 55 3 hlen rfl (by decide)
  have hdg : decode cc pc = .ok (.putfield (sw_n ns 0), 3) := hdg
  have hop : (sw_oPutz) pc 3 zs ns ls st M = some q := hop
  obtain ⟨v, ob, st1, rfl, ⟨hk, hv⟩, rfl⟩ := sw_oPutz_i hop
  refine ⟨_, _, _, _, rfl, fun kk => ?_⟩
  obtain ⟨cq, hc, hlink, hj, hN, hfin, hkind⟩ := sw_okF_i (pc := pc) (zs := zs) hok
  have h10 := sw_cl_lt hc
  have hob := sw_kd_lt (k := ob) (by omega)
  have hkd : sw_fk (sw_n ns 1) (sw_n ns 2) = 3 := by simpa using hkind
  obtain ⟨-, ⟨ty0, hty⟩, hnm⟩ := sw_clok _ _ hc
  have hin := (sw_clok _ _ hc).1
  refine va_put (own := sw_cn o) (ref := (cq.2.1 (sw_n ns 2)).1) (C := cq.1) (T := cq.2.1) (N := cq.2.2) (ci := sw_n ns 1) (v := .int v) hx hb hts hin ty0 hty hnm hown hK hS.1 hS.2.1 hS.2.2.1 ob (sw_at hob (sw_ec_obj hk h10)) hc (sw_n ns 2) hj (hts _ hlink) (fun _ h => h) (hfin.resolve_left (by decide)) ((sw_fty0 _ _ hc _ hj).2.1 hkd) (sw_bool_nar hv).1 (sw_bool_nar hv).2.1 (by simp; omega) hdg (fun H1 locs1 hP1 hD1 hS1 => ?_)
  exact kk _ _ _ (sw_S_set hS hob ((sw_ec_obj hk h10).trans (congrArg (fun z => Sum.inr (sw_n ns 1, z)) (sw_fs_set (x := v) hk (by omega) (by simp [hkd])))) hP1 hD1 hS1) hl
theorem sw_s56 : sw_Snd 56 := by
  intro p l e R s m args below meth c cells slots Q o cc nL ad G D A M0 d X pc len zs ns hdg hok hlen l0 ls st M H locs hS hl q hop
  obtain ⟨hx, hb, hml, hown, hts, hK, hA, hRO, hf, hlo, hce, hsl⟩ := X
  obtain rfl : len = 3 := sw_len1 56 3 hlen rfl (by decide)
  have hdg : decode cc pc = .ok (.putfield (sw_n ns 0), 3) := hdg
  have hop : (sw_oPutr) pc 3 zs ns ls st M = some q := hop
  obtain ⟨t, ob, st1, rfl, ⟨hk, ht⟩, rfl⟩ := sw_oPutr_i hop
  refine ⟨_, _, _, _, rfl, fun kk => ?_⟩
  obtain ⟨cq, hc, hlink, hj, hN, hfin, hkind⟩ := sw_okF_i (pc := pc) (zs := zs) hok
  have h10 := sw_cl_lt hc
  have hob := sw_kd_lt (k := ob) (by omega)
  have hkd : sw_fk (sw_n ns 1) (sw_n ns 2) = 2 := by simpa using hkind
  obtain ⟨-, ⟨ty0, hty⟩, hnm⟩ := sw_clok _ _ hc
  have hin := (sw_clok _ _ hc).1
  have sw_nIt : (nI t).toNatClampNeg = t := nI_clamp (by have := sw_kd_lt (k := t) (by omega); omega)
  refine va_put (own := sw_cn o) (ref := (cq.2.1 (sw_n ns 2)).1) (C := cq.1) (T := cq.2.1) (N := cq.2.2) (ci := sw_n ns 1) (v := .ref (ad t)) hx hb hts hin ty0 hty hnm hown hK hS.1 hS.2.1 hS.2.2.1 ob (sw_at hob (sw_ec_obj hk h10)) hc (sw_n ns 2) hj (hts _ hlink) (fun _ h => h) (hfin.resolve_left (by decide)) ((sw_fty0 _ _ hc _ hj).2.2 hkd) rfl rfl (by simp; omega) hdg (fun H1 locs1 hP1 hD1 hS1 => ?_)
  exact kk _ _ _ (sw_S_set hS hob ((sw_ec_obj hk h10).trans (congrArg (fun z => Sum.inr (sw_n ns 1, z)) (sw_fs_set (x := nI t) hk (by omega) (by simp [hkd, sw_nIt])))) hP1 hD1 hS1) hl
theorem sw_s57 : sw_Snd 57 := by
  intro p l e R s m args below meth c cells slots Q o cc nL ad G D A M0 d X pc len zs ns hdg hok hlen l0 ls st M H locs hS hl q hop
  obtain ⟨hx, hb, hml, hown, hts, hK, hA, hRO, hf, hlo, hce, hsl⟩ := X
  obtain rfl : len = 3 := sw_len1 57 3 hlen rfl (by decide)
  have hdg : decode cc pc = .ok (.getstatic (sw_n ns 0), 3) := hdg
  obtain rfl := sw_go_i hop
  refine ⟨_, _, _, _, rfl, fun kk => ?_⟩
  have hok : (decide (sw_n ns 1 < 3) && sw_w ns 2 (.fieldLink (sw_cn o) (sw_n ns 0) "StoneWed$Kinds" (sw_gsT.getD (sw_n ns 1) "") "[I")) = true := hok
  rw [Bool.and_eq_true] at hok
  exact va_gets hx hb (hRO.2 _ (of_decide_eq_true hok.1)) hS.2.2.1 hown (hts _ (sw_w_mem hok.2)) (fun _ h => h) hdg (kk _ _ _ hS hl)
theorem sw_s58 : sw_Snd 58 := by
  intro p l e R s m args below meth c cells slots Q o cc nL ad G D A M0 d X pc len zs ns hdg hok hlen l0 ls st M H locs hS hl q hop
  obtain ⟨hx, hb, hml, hown, hts, hK, hA, hRO, hf, hlo, hce, hsl⟩ := X
  obtain rfl : len = 1 := sw_len1 58 1 hlen rfl (by decide)
  have hdg : decode cc pc = .ok (.iaload, 1) := hdg
  have hop : (sw_oIald) pc 1 zs ns ls st M = some q := hop
  obtain ⟨i, b, st1, rfl, ⟨hk, hi⟩, rfl⟩ := sw_oIald_i hop
  refine ⟨_, _, _, _, rfl, fun kk => ?_⟩
  have hob := sw_kd_lt (k := b) (by omega)
  exact va_iald hx hb hK hS.1 b 0 (sw_at hob (sw_ec_10 hk)) rfl hi hdg (kk _ _ _ hS hl)
theorem sw_kd_14 {k : Nat} (h : sw_kd k = 14) : 109 ≤ k ∧ k < 113 := by
  rcases Nat.lt_or_ge k 113 with q | q
  · have : ∀ k, k < 113 → sw_kd k = 14 → 109 ≤ k := by decide +kernel
    exact ⟨this k q h, q⟩
  · have e : sw_kd k = 99 := by
      unfold sw_kd
      rw [List.getD_eq_getElem?_getD, List.getElem?_eq_none (by exact q)]
      rfl
    omega
theorem sw_rl_eq {M M0 : sw_Mem} (h : ∀ a, 109 ≤ a → M a = M0 a) (a : Nat) : sw_rl M0 a = sw_rl M a := by
  unfold sw_rl
  rw [h 113 (by decide)]
theorem sw_s59 : sw_Snd 59 := by
  intro p l e R s m args below meth c cells slots Q o cc nL ad G D A M0 d X pc len zs ns hdg hok hlen l0 ls st M H locs hS hl q hop
  obtain ⟨hx, hb, hml, hown, hts, hK, hA, hRO, hf, hlo, hce, hsl⟩ := X
  obtain rfl : len = 1 := sw_len1 59 1 hlen rfl (by decide)
  have hdg : decode cc pc = .ok (.iaload, 1) := hdg
  have hop : (sw_oIaldR) pc 1 zs ns ls st M = some q := hop
  obtain ⟨i, b, st1, rfl, ⟨hk, hi⟩, rfl⟩ := sw_oIaldR_i hop
  refine ⟨_, _, _, _, rfl, fun kk => ?_⟩
  obtain ⟨h1, h2⟩ := sw_kd_14 hk
  obtain ⟨g1, g2, g3⟩ := hRO.1 b h1 h2
  have e1 := hS.2.2.2 b h1
  refine va_sld hx hb g3 g1 g2 hS.2.2.1 (by rw [sw_rl_eq hS.2.2.2]; exact hi) hdg ?_
  rw [← e1]
  exact kk _ _ _ hS hl
theorem sw_s60 : sw_Snd 60 := by
  intro p l e R s m args below meth c cells slots Q o cc nL ad G D A M0 d X pc len zs ns hdg hok hlen l0 ls st M H locs hS hl q hop
  obtain ⟨hx, hb, hml, hown, hts, hK, hA, hRO, hf, hlo, hce, hsl⟩ := X
  obtain rfl : len = 1 := sw_len1 60 1 hlen rfl (by decide)
  have hdg : decode cc pc = .ok (.iastore, 1) := hdg
  have hop : (sw_oIast) pc 1 zs ns ls st M = some q := hop
  obtain ⟨x, i, b, st1, rfl, ⟨hk, hi⟩, rfl⟩ := sw_oIast_i hop
  refine ⟨_, _, _, _, rfl, fun kk => ?_⟩
  have hob := sw_kd_lt (k := b) (by omega)
  exact va_iast hx hb hK hS.1 hS.2.1 hS.2.2.1 b 0 (sw_at hob (sw_ec_10 hk)) rfl hi hdg (fun H1 locs1 hP1 hD1 hS1 => kk _ _ _ (sw_S_set hS hob (sw_ec_10 hk) hP1 hD1 hS1) hl)
theorem sw_s62 : sw_Snd 62 := by
  intro p l e R s m args below meth c cells slots Q o cc nL ad G D A M0 d X pc len zs ns hdg hok hlen l0 ls st M H locs hS hl q hop
  obtain ⟨hx, hb, hml, hown, hts, hK, hA, hRO, hf, hlo, hce, hsl⟩ := X
  obtain rfl : len = 1 := sw_len1 62 1 hlen rfl (by decide)
  have hdg : decode cc pc = .ok (.baload, 1) := hdg
  have hop : (sw_oBald) pc 1 zs ns ls st M = some q := hop
  obtain ⟨i, b, st1, rfl, ⟨hk, hi⟩, rfl⟩ := sw_oBald_i hop
  refine ⟨_, _, _, _, rfl, fun kk => ?_⟩
  have hob := sw_kd_lt (k := b) (by omega)
  exact va_zald hx hb hK hS.1 b 1 (sw_at hob (sw_ec_11 hk)) rfl hi hdg (kk _ _ _ hS hl)
theorem sw_s63 : sw_Snd 63 := by
  intro p l e R s m args below meth c cells slots Q o cc nL ad G D A M0 d X pc len zs ns hdg hok hlen l0 ls st M H locs hS hl q hop
  obtain ⟨hx, hb, hml, hown, hts, hK, hA, hRO, hf, hlo, hce, hsl⟩ := X
  obtain rfl : len = 1 := sw_len1 63 1 hlen rfl (by decide)
  have hdg : decode cc pc = .ok (.bastore, 1) := hdg
  have hop : (sw_oBast) pc 1 zs ns ls st M = some q := hop
  obtain ⟨x, i, b, st1, rfl, ⟨⟨hk, hv⟩, hi⟩, rfl⟩ := sw_oBast_i hop
  refine ⟨_, _, _, _, rfl, fun kk => ?_⟩
  have hob := sw_kd_lt (k := b) (by omega)
  refine va_zast hx hb hK hS.1 hS.2.1 hS.2.2.1 b 1 (sw_at hob (sw_ec_11 hk)) rfl hi hdg (fun H1 locs1 hP1 hD1 hS1 => ?_)
  rw [(sw_bool_nar hv).2.2] at hP1 hD1
  exact kk _ _ _ (sw_S_set hS hob (sw_ec_11 hk) hP1 hD1 hS1) hl
section SAA
variable {p : Program} {l : Launch} {e : Env} {R : Room} {s : State} {m : MethodId} {args : Array Value} {below : List Frame} {meth : Method} {c : Code} {H : Heap} {locs : List Loc} {cells slots : Nat} {Q : State → Prop}
variable {cc : ByteArray} {pc : Nat} {ls : Array Slot} {rest : List Value} {D : va_G} {cl : List vw_C} {a : Nat} {tys : List (ClassId × FieldType)} {ws : va_W}
theorem sw_aldA (hexec : p.tables.exec = Jvm.exec) (hb : c.code = cc) (hK : va_K D cl tys s) (hP : va_P D cl ws H) (q0 t0 : Nat) {cA : ClassId} {ty : FieldType} {n : Nat} {f : Nat → Option Nat} (ha : ws[q0]? = some (a, .inl (cA, n, .inr (.inr (.inr (.inr f)))))) (ht : tys[t0]? = some (cA, ty)) (hr : ty.isReference = true) {i : Int32} (hin : vp_in i n) (hdg : decode cc pc = .ok (.aaload, 1))
    (kk : W p l e R s m args below meth c H locs cells slots Q (F0 m (pc + 1) ls (va_rf (f i.toNatClampNeg) :: rest))) : W p l e R s m args below meth c H locs cells slots Q (F0 m pc ls (.int i :: .ref a :: rest)) := by
  have hlt : i.toNatClampNeg < n := Nat.not_le.mp fun q => hin (Or.inr q)
  exact W.aald (v := va_rf (f i.toNatClampNeg)) (ty := ty) hexec hb (hP q0 _ ha) ((hK.2 t0 _ ht).1 n (fun j => va_rf (f j))) hr (fun q => by cases q) (by show ¬ (i < 0 ∨ (arrV _ _ _).slots.size ≤ _); rw [arrV_size]; exact hin) (by show (arrV _ _ _).slots[_]? = _; rw [arrV_read _ _ hlt]) rfl rfl hdg kk
end SAA
theorem sw_s61 : sw_Snd 61 := by
  intro p l e R s m args below meth c cells slots Q o cc nL ad G D A M0 d X pc len zs ns hdg hok hlen l0 ls st M H locs hS hl q hop
  obtain ⟨hx, hb, hml, hown, hts, hK, hA, hRO, hf, hlo, hce, hsl⟩ := X
  obtain rfl : len = 1 := sw_len1 61 1 hlen rfl (by decide)
  have hdg : decode cc pc = .ok (.aaload, 1) := hdg
  have hop : (sw_oAald) pc 1 zs ns ls st M = some q := hop
  obtain ⟨i, b, st1, rfl, ⟨hk, hi⟩, rfl⟩ := sw_oAald_i hop
  refine ⟨_, _, _, _, rfl, fun kk => ?_⟩
  have hob := sw_kd_lt (k := b) (by omega)
  have hlt : i.toNatClampNeg < sw_ln b := Nat.not_le.mp fun q => hi (Or.inr q)
  have hrf : va_rf (sw_rf ad b i.toNatClampNeg) = sw_cv ad (.ref (sw_rt b i.toNatClampNeg)) := by
    unfold sw_rf
    rw [if_pos hlt]
    rfl
  rcases hk with hk | hk
  · refine sw_aldA hx hb hK hS.1 b 2 (sw_at hob (sw_ec_12 hk)) rfl rfl hi hdg ?_
    rw [hrf]
    exact kk _ _ _ hS hl
  · refine sw_aldA hx hb hK hS.1 b 3 (sw_at hob (sw_ec_13 hk)) rfl rfl hi hdg ?_
    rw [hrf]
    exact kk _ _ _ hS hl
theorem sw_s64 : sw_Snd 64 := by
  intro p l e R s m args below meth c cells slots Q o cc nL ad G D A M0 d X pc len zs ns hdg hok hlen l0 ls st M H locs hS hl q hop
  obtain ⟨hx, hb, hml, hown, hts, hK, hA, hRO, hf, hlo, hce, hsl⟩ := X
  obtain rfl : len = 1 := sw_len1 64 1 hlen rfl (by decide)
  have hdg : decode cc pc = .ok (.arraylength, 1) := hdg
  have hop : (sw_oAlen) pc 1 zs ns ls st M = some q := hop
  obtain ⟨b, st1, rfl, hk, rfl⟩ := sw_oAlen_i hop
  refine ⟨_, _, _, _, rfl, fun kk => ?_⟩
  have hob := sw_kd_lt (k := b) (by omega)
  exact va_alen hx hb hK hS.1 b 0 (sw_at hob (sw_ec_10 hk)) rfl rfl hdg (kk _ _ _ hS hl)
theorem sw_s65 : sw_Snd 65 := by
  intro p l e R s m args below meth c cells slots Q o cc nL ad G D A M0 d X pc len zs ns hdg hok hlen l0 ls st M H locs hS hl q hop
  obtain ⟨hx, hb, hml, hown, hts, hK, hA, hRO, hf, hlo, hce, hsl⟩ := X
  obtain rfl : len = 1 := sw_len1 65 1 hlen rfl (by decide)
  have hdg : decode cc pc = .ok (.arraylength, 1) := hdg
  have hop : (sw_oAlenR) pc 1 zs ns ls st M = some q := hop
  obtain ⟨b, st1, rfl, hk, rfl⟩ := sw_oAlenR_i hop
  refine ⟨_, _, _, _, rfl, fun kk => ?_⟩
  obtain ⟨h1, h2⟩ := sw_kd_14 hk
  obtain ⟨g1, g2, g3⟩ := hRO.1 b h1 h2
  refine va_slen hx hb g3 g1 g2 hS.2.2.1 hdg ?_
  rw [sw_rl_eq hS.2.2.2]
  exact kk _ _ _ hS hl
theorem sw_s68 : sw_Snd 68 := by
  intro p l e R s m args below meth c cells slots Q o cc nL ad G D A M0 d X pc len zs ns hdg hok hlen l0 ls st M H locs hS hl q hop
  obtain ⟨hx, hb, hml, hown, hts, hK, hA, hRO, hf, hlo, hce, hsl⟩ := X
  obtain rfl : len = 3 := sw_len1 68 3 hlen rfl (by decide)
  have hdg : decode cc pc = .ok (.invokestatic (sw_n ns 0), 3) := hdg
  have hop : (sw_oCopy) pc 3 zs ns ls st M = some q := hop
  obtain ⟨n, dp, b, sp, g, st1, rfl, ⟨⟨⟨hg, hk⟩, ⟨h1, h2, h3⟩, h4, h5⟩, h6⟩, rfl⟩ := sw_oCopy_i hop
  refine ⟨_, _, _, _, rfl, fun kk => ?_⟩
  have hob := sw_kd_lt (k := b) (by omega)
  have hog := sw_kd_lt (k := g) (by omega)
  have hsz := sw_lr_sz hl
  exact va_copyi (own := sw_cn o) hx hb (hml.trans hsz.symm) hown (hts _ (sw_w_mem (i := 1) hok)) (hts _ sw_m_acn) (hts _ sw_m_acs) (hts _ sw_m_sys) hK hS.1 hS.2.1 hS.2.2.1 g b 0 0 (ty := .int) (sw_at hog (sw_ec_10 hg)) (sw_at hob (sw_ec_10 hk)) rfl rfl rfl h1 h2 h3 h4 h5 (fun _ _ => rfl) (by omega) (by rw [sw_sum_cv]; have : nativeFrameWords "java/lang/System" "arraycopy" 5 ≤ 30 := (by decide +kernel); omega) hdg (fun H1 locs1 hP1 hD1 hS1 => kk _ _ _ (sw_S_set hS hob (sw_ec_10 hk) hP1 hD1 hS1) hl)
theorem sw_s69 : sw_Snd 69 := by
  intro p l e R s m args below meth c cells slots Q o cc nL ad G D A M0 d X pc len zs ns hdg hok hlen l0 ls st M H locs hS hl q hop
  obtain ⟨hx, hb, hml, hown, hts, hK, hA, hRO, hf, hlo, hce, hsl⟩ := X
  obtain rfl : len = 3 := sw_len1 69 3 hlen rfl (by decide)
  have hdg : decode cc pc = .ok (.invokestatic (sw_n ns 0), 3) := hdg
  have hop : (sw_oMax) pc 3 zs ns ls st M = some q := hop
  obtain ⟨y, x, st1, rfl, h6, rfl⟩ := sw_oMax_i hop
  refine ⟨_, _, _, _, rfl, fun kk => ?_⟩
  have hsz := sw_lr_sz hl
  exact va_mmax (own := sw_cn o) hx hb (hml.trans hsz.symm) hown (hts _ (sw_w_mem (i := 1) hok)) (hts _ sw_m_max_s) (hts _ sw_m_math) (hts _ sw_m_max_c) (by omega) (by rw [sw_sum_cv]; omega) hce hsl hdg (kk _ _ _ hS hl)
theorem sw_s70 : sw_Snd 70 := by
  intro p l e R s m args below meth c cells slots Q o cc nL ad G D A M0 d X pc len zs ns hdg hok hlen l0 ls st M H locs hS hl q hop
  obtain ⟨hx, hb, hml, hown, hts, hK, hA, hRO, hf, hlo, hce, hsl⟩ := X
  obtain rfl : len = 3 := sw_len1 70 3 hlen rfl (by decide)
  have hdg : decode cc pc = .ok (.invokestatic (sw_n ns 0), 3) := hdg
  have hop : (sw_oMin) pc 3 zs ns ls st M = some q := hop
  obtain ⟨y, x, st1, rfl, h6, rfl⟩ := sw_oMin_i hop
  refine ⟨_, _, _, _, rfl, fun kk => ?_⟩
  have hsz := sw_lr_sz hl
  exact va_mmin (own := sw_cn o) hx hb (hml.trans hsz.symm) hown (hts _ (sw_w_mem (i := 1) hok)) (hts _ sw_m_min_s) (hts _ sw_m_math) (hts _ sw_m_min_c) (by omega) (by rw [sw_sum_cv]; omega) hce hsl hdg (kk _ _ _ hS hl)
theorem sw_s71 : sw_Snd 71 := by
  intro p l e R s m args below meth c cells slots Q o cc nL ad G D A M0 d X pc len zs ns hdg hok hlen l0 ls st M H locs hS hl q hop
  obtain ⟨hx, hb, hml, hown, hts, hK, hA, hRO, hf, hlo, hce, hsl⟩ := X
  obtain rfl : len = 3 := sw_len1 71 3 hlen rfl (by decide)
  have hdg : decode cc pc = .ok (.invokestatic (sw_n ns 0), 3) := hdg
  have hop : (sw_oAbs) pc 3 zs ns ls st M = some q := hop
  obtain ⟨x, st1, rfl, h6, rfl⟩ := sw_oAbs_i hop
  refine ⟨_, _, _, _, rfl, fun kk => ?_⟩
  have hsz := sw_lr_sz hl
  exact va_mabs (own := sw_cn o) hx hb (hml.trans hsz.symm) hown (hts _ (sw_w_mem (i := 1) hok)) (hts _ sw_m_abs_s) (hts _ sw_m_math) (hts _ sw_m_abs_c) (by omega) (by rw [sw_sum_cv]; omega) hce hsl hdg (kk _ _ _ hS hl)
