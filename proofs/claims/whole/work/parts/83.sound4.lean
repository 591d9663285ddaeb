/-! calls -/
def sw_rm (d : Nat) : Room := { frames := d, cells := 0, slots := 0, locals := 60 * d }
def sw_Pre (ad : Nat → Nat) (G : sw_G) (D : va_G) (M : sw_Mem) (sz : Nat) (U : State) : Prop :=
  U.heap.size = sz ∧ va_P D vwCl (sw_ws ad G M) U.heap ∧ va_K D vwCl (sw_tys G) U ∧ va_D (fun _ => True) (sw_ws ad G M) ∧ sw_RO ad M (va_A (sw_ws ad G M) sz) U U.heap
def sw_Q (ad : Nat → Nat) (G : sw_G) (D : va_G) (M M1 : sw_Mem) (r : Option Value) (A1 : Nat → Prop) : Array Value → State → Outcome → State → Prop := fun _ st oc t =>
  (oc = .returned (r.map (sw_cv ad)) ∧ va_P D vwCl (sw_ws ad G M1) t.heap ∧ ∀ a, 109 ≤ a → M1 a = M a) ∧ va_F A1 st t
def sw_MetK (l : Launch) (d k : Nat) (as : List Value) (M : sw_Mem) (r : Option Value) (M1 : sw_Mem) : Prop :=
  ∀ e, sw_mt[k]? = some e → sw_okW e = true → ∀ ad G D sz, Met l e.2.1 (.code e.2.1 e.2.2.1 e.2.2.2.1 e.2.2.2.2.1 :: sw_gt) (sw_rm d) (va_Pc (as.map (sw_cv ad)) (sw_Pre ad G D M sz)) (sw_Q ad G D M M1 r (va_A (sw_ws ad G M) sz)) 0 0 (va_A (sw_ws ad G M) sz)
theorem sw_call {p : Program} {l : Launch} {e : Env} {R : Room} {s : State} {m : MethodId} {args : Array Value} {below : List Frame} {meth : Method} {c : Code} {H : Heap} {locs : List Loc} {cells slots : Nat} {Q : State → Prop} {pc : Nat} {l0 : Array Slot} {rest st0 : List Value} {a : Array Value} {A A1 : Nat → Prop} {ad : Nat → Nat} {G : sw_G} {D : va_G} {M M1 : sw_Mem} {r : Option Value}
    (hr : va_Run p l e R s m args below meth c H locs cells slots 0 0 (F0 m pc l0 st0) rest (sw_Q ad G D M M1 r A1 a) A1) (hS : va_S A s.heap H locs) (hA1 : ∀ q, A1 q → A q)
    (kk : ∀ (H1 : Heap) (locs1 : List Loc), va_P D vwCl (sw_ws ad G M1) H1 → va_S A s.heap H1 locs1 → (∀ a, 109 ≤ a → M1 a = M a) → W p l e R s m args below meth c H1 locs1 cells slots Q (F0 m (pc + 3) l0 ((r.map (sw_cv ad)).toList ++ rest))) :
    W p l e R s m args below meth c H locs cells slots Q (F0 m pc l0 st0) := by
  intro T hT X
  obtain ⟨v, st₀, t, T', L, h0, X', hL, e1, e2, ⟨⟨hv, hp, hm⟩, hz, hk⟩, st⟩ := hr T hT X
  cases hv
  rw [h0] at hz hk
  obtain ⟨t2, a1, b1⟩ := kk T'.heap (locs ++ L) (by rw [e1]; exact hp)
    ⟨Nat.le_trans hS.1 (by rw [e1]; exact hz), fun q h1 h2 => by rw [e1, hk q (Nat.lt_of_lt_of_le h1 hS.1) (fun z => h2 (hA1 q z))]; exact hS.2.1 q h1 h2, fun q hq => by
      rcases List.mem_append.mp hq with h | h
      · exact hS.2.2 q h
      · exact hA1 _ (hL q h)⟩ hm T' rfl X'
  exact ⟨t2, st t2 a1, b1⟩
theorem sw_okW_i {e : sw_Mt} (h : sw_okW e = true) : e.2.1.cls = sw_cn e.1 ∧ plainName e.2.1.cls = true ∧ e.2.1.cls ≠ "java/lang/invoke/MethodHandle" ∧ e.2.1.cls ≠ "java/lang/invoke/VarHandle" ∧ (parseMethodDescriptor e.2.1.desc).map (fun d => d.parameters.length) = some (sw_n e.2.2.2.2.2.1 1) ∧ e.2.2.2.1 ≤ 30 ∧
    Cond.code e.2.1 e.2.2.1 e.2.2.2.1 e.2.2.2.2.1 ∈ sw_gt ∧ Cond.initialized e.2.1.cls ∈ sw_gt ∧ (sw_n e.2.2.2.2.2.1 0 = 0 → Cond.static e.2.1 ∈ sw_gt) ∧
    (sw_n e.2.2.2.2.2.1 0 ≠ 0 → Cond.instanceMethod e.2.1 ∈ sw_gt ∧ Cond.selects e.2.1.cls e.2.1 e.2.1 ∈ sw_gt ∧ (vwCl[sw_n e.2.2.2.2.2.1 2]?).map (fun q => q.1) = some e.2.1.cls) := by
  unfold sw_okW at h
  rw [Bool.and_eq_true, Bool.and_eq_true, Bool.and_eq_true] at h
  obtain ⟨⟨⟨h1, h2⟩, h3⟩, h4⟩ := h
  obtain ⟨g1, g2, g3, g4, g5, g6⟩ := of_decide_eq_true h1
  refine ⟨g1, g2, g3, g4, g5, g6, sw_w_mem h2, sw_w_mem h3, fun h0 => ?_, fun h0 => ?_⟩
  · rw [if_pos h0] at h4
    exact sw_w_mem h4
  · rw [if_neg h0, Bool.and_eq_true, Bool.and_eq_true] at h4
    exact ⟨sw_w_mem h4.1.1, sw_w_mem h4.1.2, of_decide_eq_true h4.2⟩
def sw_SndC (k : Nat) : Prop := ∀ (p : Program) (l : Launch) (e : Env) (R : Room) (s : State) (m : MethodId) (args : Array Value) (below : List Frame) (meth : Method) (c : Code) (cells slots : Nat) (Q : State → Prop) (o : Nat) (cc : ByteArray) (nL : Nat) (ad : Nat → Nat) (G : sw_G) (D : va_G) (A : Nat → Prop) (M0 : sw_Mem) (d : Nat),
  sw_X p R s m args c o cc nL ad G D A M0 cells slots d → (∀ (k2 : Nat) (e : sw_Mt), sw_mt[k2]? = some e → sw_n e.2.2.2.2.2.1 0 < 2 → sw_okW e = true) → ∀ (pc len : Nat) (zs : List Int) (ns : List Nat), decode cc pc = .ok (sw_ins k pc zs ns, len) → sw_ok1 k o pc zs ns = true → (len = sw_len k ∨ sw_len k = 0) →
  ∀ (l0 : Array Slot) (ls st : List Value) (M : sw_Mem) (H : Heap) (locs : List Loc), sw_S ad G D A s M0 M H locs → sw_lr ad nL l0 ls → ∀ q : sw_Q3, sw_op k pc len zs ns ls st M = some q →
  ∃ k2 as pc' ls' st', q = .inr (.inr (k2, as, pc', ls', st')) ∧ (∀ r1 M1, sw_MetK l d k2 as M r1 M1 → (∀ (l1 : Array Slot) (H1 : Heap) (locs1 : List Loc), sw_S ad G D A s M0 M1 H1 locs1 → sw_lr ad nL l1 ls' → W p l e R s m args below meth c H1 locs1 cells slots Q (F0 m pc' l1 ((sw_pu r1 st').map (sw_cv ad)))) →
    W p l e R s m args below meth c H locs cells slots Q (F0 m pc l0 (st.map (sw_cv ad))))
theorem sw_pu_cv (ad : Nat → Nat) (r : Option Value) (st : List Value) : (sw_pu r st).map (sw_cv ad) = (r.map (sw_cv ad)).toList ++ st.map (sw_cv ad) := by cases r <;> rfl
/-- the callee's world is the caller's -/
theorem sw_pre_of {s : State} {H : Heap} {locs : List Loc} {ad : Nat → Nat} {G : sw_G} {D : va_G} {A : Nat → Prop} {M0 M : sw_Mem} (hK : va_K D vwCl (sw_tys G) s) (hA : ∀ q, s.heap.size ≤ q → A q) (hRO : sw_RO ad M0 A s s.heap) (hS : sw_S ad G D A s M0 M H locs) :
    (∀ q, va_A (sw_ws ad G M) H.size q → A q) ∧ ∀ U : State, U.heap = H → s.WarmedH U.vm → sw_Pre ad G D M H.size U := by
  obtain ⟨hP, hD, hSS, hM⟩ := hS
  have hF : ∀ q, va_A (sw_ws ad G M) H.size q → A q := by
    intro q h
    rcases h with ⟨k, e, h⟩ | h
    · exact hD.2 k _ h
    · exact hA q (Nat.le_trans hSS.1 h)
  refine ⟨hF, fun U hU hW => ⟨by rw [hU], by rw [hU]; exact hP, va_K.moved hW.alike hK, hD.weaken (fun _ _ _ _ => trivial), ?_⟩⟩
  rw [hU]
  refine ⟨fun a h1 h2 => ?_, fun i hi => ?_⟩
  · obtain ⟨g1, g2, g3⟩ := hRO.1 a h1 h2
    rw [sw_rl_eq hM, ← hM a h1] at g3
    exact ⟨Nat.lt_of_lt_of_le g1 hSS.1, fun z => g2 (hF _ z), (g3.kept (hSS.2.1 _ g1 g2)).moved hW.alike⟩
  · exact ((hRO.2 i hi).kept (fun a h1 h2 => hSS.2.1 a h1 h2)).moved hW.alike |>.narrow hF
theorem sw_blind (ad : Nat → Nat) (G : sw_G) (D : va_G) (M : sw_Mem) (sz : Nat) (av : List Value) : FrameBlind (va_Pc av (sw_Pre ad G D M sz)) := by
  intro a U g mk q
  obtain ⟨q0, q1, q2, q3, q4, q5⟩ := q
  exact ⟨q0, q1, q2, va_K.moved (u := U) (U := U.calling g mk a) (Vm.Alike.refl U.vm) q3, q4, sw_RO.moved (u := U) (U := U.calling g mk a) (Vm.Alike.refl U.vm) q5⟩
theorem sw_kd_cls {D : va_G} {G : sw_G} {M : sw_Mem} {ad : Nat → Nat} {H : Heap} {s : State} {ob ci : Nat} {q : vw_C} (hK : va_K D vwCl (sw_tys G) s) (hP : va_P D vwCl (sw_ws ad G M) H) (hk : sw_kd ob = ci) (hc : vwCl[ci]? = some q) : ∃ cell : Cell, H[ad ob]? = some cell ∧ cell.vm.isStatics = false ∧ s.vm.findClass q.1 = some cell.cls := by
  have h10 := sw_cl_lt hc
  exact va_recv hK hP hc (sw_at (sw_kd_lt (k := ob) (by omega)) (sw_ec_obj hk h10))
theorem sw_s66 : sw_SndC 66 := by
  intro p l e R s m args below meth c cells slots Q o cc nL ad G D A M0 d X hself pc len zs ns hdg hok hlen l0 ls st M H locs hS hl q hop
  obtain ⟨hx, hb, hml, hown, hts, hK, hA, hRO, hf, hlo, hce, hsl⟩ := X
  obtain rfl : len = 3 := sw_len1 66 3 hlen rfl (by decide)
  have hdg : decode cc pc = .ok (.invokestatic (sw_n ns 0), 3) := hdg
  have hop : sw_oCallS pc 3 zs ns ls st M = some q := hop
  have hok : sw_okS o pc zs ns = true := hok
  unfold sw_oCallS at hop
  split at hop
  case isFalse => cases hop
  case isTrue hc =>
  obtain ⟨hn, hsm⟩ := hc
  cases (show sw_cll (sw_n ns 1) (st.take (sw_n ns 2)).reverse (pc + 3) ls (st.drop (sw_n ns 2)) = some q from hop)
  refine ⟨_, _, _, _, _, rfl, fun r1 M1 hM kk => ?_⟩
  unfold sw_okS at hok
  split at hok
  case h_2 => cases hok
  case h_1 _ em hem =>
  rw [Bool.and_eq_true, Bool.and_eq_true] at hok
  have hw0 : sw_n em.2.2.2.2.2.1 0 = 0 := of_decide_eq_true hok.1.1
  have hw1 : sw_n em.2.2.2.2.2.1 1 = sw_n ns 2 := of_decide_eq_true hok.1.2
  have hlk := sw_w_mem hok.2
  have hW := hself _ _ hem (by omega)
  obtain ⟨g1, g2, g3, g4, g5, g6, g7, g8, g9, -⟩ := sw_okW_i hW
  have hst := g9 hw0
  have hM := hM em hem hW ad G D H.size
  obtain ⟨hF, hpre⟩ := sw_pre_of hK hA hRO hS
  have hsz := sw_lr_sz hl
  have hT : GoodIn sw_gt (va_wsS (sw_cn o) (sw_n ns 0) em.2.1 (.code em.2.1 em.2.2.1 em.2.2.2.1 em.2.2.2.2.1 :: sw_gt)) := sw_GI (by
    intro w hw
    simp only [va_wsS, List.cons_append, List.nil_append, List.mem_cons] at hw
    rcases hw with rfl | rfl | rfl | rfl | hw
    · exact hlk
    · exact hst
    · exact g8
    · exact g7
    · exact hw)
  refine sw_call (va_runS (As := (st.take (sw_n ns 2)).reverse.map (sw_cv ad)) (rest := (st.drop (sw_n ns 2)).map (sw_cv ad)) (n := sw_n ns 2) ⟨hx, hb, hml, hown, hts⟩ hM (va_cwS (sw_n ns 2) hts hT rfl rfl rfl ⟨g3, g4, by rw [g5, hw1]⟩ ⟨by show d + 1 ≤ R.frames; omega, by show 8 + (em.2.2.2.1 + 11) + 60 * d ≤ R.locals; omega⟩) ⟨sw_blind _ _ _ _ _ _, fun U hU hWm => ⟨rfl, hpre U hU hWm⟩⟩ rfl (by simp; omega) hsz ?_ (lv_room (by rw [sw_sum_cv]; exact hsm)) hdg ⟨hce, hsl⟩) hS.2.2.1 hF (fun H1 locs1 hP1 hS1 hM1 => ?_)
  · show st.map (sw_cv ad) = _
    rw [← List.map_reverse, List.reverse_reverse, ← List.map_append, List.take_append_drop]
  · rw [← sw_pu_cv]
    exact kk _ _ _ ⟨hP1, sw_D_any hS.2.1 M1, hS1, fun a ha => (hM1 a ha).trans (hS.2.2.2 a ha)⟩ hl
theorem sw_s67 : sw_SndC 67 := by
  intro p l e R s m args below meth c cells slots Q o cc nL ad G D A M0 d X hself pc len zs ns hdg hok hlen l0 ls st M H locs hS hl q hop
  obtain ⟨hx, hb, hml, hown, hts, hK, hA, hRO, hf, hlo, hce, hsl⟩ := X
  obtain rfl : len = 3 := sw_len1 67 3 hlen rfl (by decide)
  have hdg : decode cc pc = .ok (.invokevirtual (sw_n ns 0), 3) := hdg
  have hop : sw_oCallV pc 3 zs ns ls st M = some q := hop
  have hok : sw_okV o pc zs ns = true := hok
  unfold sw_oCallV at hop
  split at hop
  case h_2 => cases hop
  case h_1 _ ob rr hdrop =>
  split at hop
  case isFalse => cases hop
  case isTrue hc =>
  obtain ⟨hk, hn, hsm⟩ := hc
  cases (show sw_cll (sw_n ns 1) (.ref ob :: (st.take (sw_n ns 2)).reverse) (pc + 3) ls rr = some q from hop)
  refine ⟨_, _, _, _, _, rfl, fun r1 M1 hM kk => ?_⟩
  unfold sw_okV at hok
  split at hok
  case h_2 => cases hok
  case h_1 _ em hem =>
  rw [Bool.and_eq_true, Bool.and_eq_true, Bool.and_eq_true] at hok
  have hw0 : sw_n em.2.2.2.2.2.1 0 = 1 := of_decide_eq_true hok.1.1.1
  have hw1 : sw_n em.2.2.2.2.2.1 1 = sw_n ns 2 := of_decide_eq_true hok.1.1.2
  have hw2 : sw_n em.2.2.2.2.2.1 2 = sw_n ns 3 := of_decide_eq_true hok.1.2
  have hlk := sw_w_mem hok.2
  have hW := hself _ _ hem (by omega)
  obtain ⟨g1, g2, g3, g4, g5, g6, g7, g8, -, g9⟩ := sw_okW_i hW
  obtain ⟨hin, hse, hcl⟩ := g9 (by omega)
  have hM := hM em hem hW ad G D H.size
  obtain ⟨hF, hpre⟩ := sw_pre_of hK hA hRO hS
  have hsz := sw_lr_sz hl
  have hT : GoodIn sw_gt (wsV (sw_cn o) (sw_n ns 0) em.2.1.cls em.2.1 (.code em.2.1 em.2.2.1 em.2.2.2.1 em.2.2.2.2.1 :: sw_gt)) := sw_GI (by
    intro w hw
    simp only [wsV, List.cons_append, List.nil_append, List.mem_cons] at hw
    rcases hw with rfl | rfl | rfl | rfl | rfl | hw
    · exact hlk
    · exact hin
    · exact hse
    · exact g8
    · exact g7
    · exact hw)
  obtain ⟨cq, hcq, hcn⟩ : ∃ cq, vwCl[sw_n ns 3]? = some cq ∧ cq.1 = em.2.1.cls := by
    rw [hw2] at hcl
    cases hv : vwCl[sw_n ns 3]? with
    | none => rw [hv] at hcl; cases hcl
    | some cq => rw [hv] at hcl; exact ⟨cq, rfl, Option.some.inj hcl⟩
  have hrecv := sw_kd_cls hK hS.1 hk hcq
  rw [hcn] at hrecv
  refine sw_call (va_runV (b := ad ob) (As := (st.take (sw_n ns 2)).reverse.map (sw_cv ad)) (rest := rr.map (sw_cv ad)) (n := sw_n ns 2) ⟨hx, hb, hml, hown, hts⟩ hM (cwV (sw_n ns 2) hts hT rfl rfl rfl ⟨rfl, g3, g4, by rw [g5, hw1]⟩ ⟨by show d + 1 ≤ R.frames; omega, by show 8 + (em.2.2.2.1 + 11) + 60 * d ≤ R.locals; omega⟩) ⟨sw_blind _ _ _ _ _ _, hrecv, fun U hU hWm => ⟨rfl, hpre U hU hWm⟩⟩ rfl (by simp; omega) hsz ?_ (lv_room (by rw [sw_sum_cv]; exact hsm)) hdg ⟨hce, hsl⟩) hS.2.2.1 hF (fun H1 locs1 hP1 hS1 hM1 => ?_)
  · show st.map (sw_cv ad) = _
    rw [← List.map_reverse, List.reverse_reverse]
    conv => lhs; rw [← List.take_append_drop (sw_n ns 2) st, hdrop]
    rw [List.map_append, List.map_cons]
    rfl
  · rw [← sw_pu_cv]
    exact kk _ _ _ ⟨hP1, sw_D_any hS.2.1 M1, hS1, fun a ha => (hM1 a ha).trans (hS.2.2.2 a ha)⟩ hl
/-! the whole table -/
theorem sw_all : ∀ k, k < 76 → sw_Snd k ∨ sw_SndC k ∨ (k = 72 ∨ k = 73 ∨ k = 74 ∨ k = 75)
  | 0, _ => Or.inl sw_s0
  | 1, _ => Or.inl sw_s1
  | 2, _ => Or.inl sw_s2
  | 3, _ => Or.inl sw_s3
  | 4, _ => Or.inl sw_s4
  | 5, _ => Or.inl sw_s5
  | 6, _ => Or.inl sw_s6
  | 7, _ => Or.inl sw_s7
  | 8, _ => Or.inl sw_s8
  | 9, _ => Or.inl sw_s9
  | 10, _ => Or.inl sw_s10
  | 11, _ => Or.inl sw_s11
  | 12, _ => Or.inl sw_s12
  | 13, _ => Or.inl sw_s13
  | 14, _ => Or.inl sw_s14
  | 15, _ => Or.inl sw_s15
  | 16, _ => Or.inl sw_s16
  | 17, _ => Or.inl sw_s17
  | 18, _ => Or.inl sw_s18
  | 19, _ => Or.inl sw_s19
  | 20, _ => Or.inl sw_s20
  | 21, _ => Or.inl sw_s21
  | 22, _ => Or.inl sw_s22
  | 23, _ => Or.inl sw_s23
  | 24, _ => Or.inl sw_s24
  | 25, _ => Or.inl sw_s25
  | 26, _ => Or.inl sw_s26
  | 27, _ => Or.inl sw_s27
  | 28, _ => Or.inl sw_s28
  | 29, _ => Or.inl sw_s29
  | 30, _ => Or.inl sw_s30
  | 31, _ => Or.inl sw_s31
  | 32, _ => Or.inl sw_s32
  | 33, _ => Or.inl sw_s33
  | 34, _ => Or.inl sw_s34
  | 35, _ => Or.inl sw_s35
  | 36, _ => Or.inl sw_s36
  | 37, _ => Or.inl sw_s37
  | 38, _ => Or.inl sw_s38
  | 39, _ => Or.inl sw_s39
  | 40, _ => Or.inl sw_s40
  | 41, _ => Or.inl sw_s41
  | 42, _ => Or.inl sw_s42
  | 43, _ => Or.inl sw_s43
  | 44, _ => Or.inl sw_s44
  | 45, _ => Or.inl sw_s45
  | 46, _ => Or.inl sw_s46
  | 47, _ => Or.inl sw_s47
  | 48, _ => Or.inl sw_s48
  | 49, _ => Or.inl sw_s49
  | 50, _ => Or.inl sw_s50
  | 51, _ => Or.inl sw_s51
  | 52, _ => Or.inl sw_s52
  | 53, _ => Or.inl sw_s53
  | 54, _ => Or.inl sw_s54
  | 55, _ => Or.inl sw_s55
  | 56, _ => Or.inl sw_s56
  | 57, _ => Or.inl sw_s57
  | 58, _ => Or.inl sw_s58
  | 59, _ => Or.inl sw_s59
  | 60, _ => Or.inl sw_s60
  | 61, _ => Or.inl sw_s61
  | 62, _ => Or.inl sw_s62
  | 63, _ => Or.inl sw_s63
  | 64, _ => Or.inl sw_s64
  | 65, _ => Or.inl sw_s65
  | 66, _ => Or.inr (Or.inl sw_s66)
  | 67, _ => Or.inr (Or.inl sw_s67)
  | 68, _ => Or.inl sw_s68
  | 69, _ => Or.inl sw_s69
  | 70, _ => Or.inl sw_s70
  | 71, _ => Or.inl sw_s71
  | 72, _ => Or.inr (Or.inr (Or.inl rfl))
  | 73, _ => Or.inr (Or.inr (Or.inr (Or.inl rfl)))
  | 74, _ => Or.inr (Or.inr (Or.inr (Or.inr (Or.inl rfl))))
  | 75, _ => Or.inr (Or.inr (Or.inr (Or.inr (Or.inr rfl))))
  | n + 76, h => absurd h (by omega)
theorem sw_op_lt {k pc len : Nat} {zs : List Int} {ns : List Nat} {ls st : List Value} {M : sw_Mem} {q : sw_Q3} (h : sw_op k pc len zs ns ls st M = some q) : k < 76 := by
  rcases Nat.lt_or_ge k 76 with h1 | h1
  · exact h1
  · have : sw_op k = sw_no := by
      unfold sw_op
      rw [List.getD_eq_getElem?_getD, List.getElem?_eq_none (by exact h1)]
      rfl
    rw [this] at h
    cases h
theorem sw_ret_i {k pc len : Nat} {zs : List Int} {ns : List Nat} {ls st : List Value} {M : sw_Mem} {q : sw_Q3} (hk : k = 72 ∨ k = 73 ∨ k = 74 ∨ k = 75) (h : sw_op k pc len zs ns ls st M = some q) : ∃ r, q = .inr (.inl (r, M)) := by
  rcases hk with rfl | rfl | rfl | rfl
  · have h : sw_oIret pc len zs ns ls st M = some q := h
    obtain ⟨x, -, h⟩ := sw_oIret_i h
    exact ⟨_, h⟩
  · have h : sw_oZret pc len zs ns ls st M = some q := h
    obtain ⟨x, -, -, h⟩ := sw_oZret_i h
    exact ⟨_, h⟩
  · have h : sw_oAret pc len zs ns ls st M = some q := h
    obtain ⟨x, -, h⟩ := sw_oAret_i h
    exact ⟨_, h⟩
  · have h : sw_oVret pc len zs ns ls st M = some q := h
    exact ⟨_, (sw_oVret_i h).2⟩
theorem sw_fetch_i {k pc : Nat} {en : sw_E} {em : sw_Mt} (hem : sw_mt[k]? = some em) (hf : sw_fetch k pc = some en) (hc : sw_okC em = true) : en.1 = pc ∧ sw_okE em.1 em.2.2.1 em.2.2.2.2.1 en = true := by
  unfold sw_fetch at hf
  rw [hem] at hf
  have hf : em.2.2.2.2.2.2.find? (fun e => e.1 == pc) = some en := hf
  have h1 := List.find?_some hf
  have h2 := List.mem_of_find?_eq_some hf
  exact ⟨by simpa using h1, List.all_eq_true.mp hc _ h2⟩
theorem sw_core {p : Program} {l : Launch} {e : Env} {R : Room} {s : State} {m : MethodId} {args : Array Value} {below : List Frame} {meth : Method} {c : Code} {cells slots : Nat} {Q : State → Prop} {nL : Nat} {ad : Nat → Nat} {G : sw_G} {D : va_G} {A : Nat → Prop} {M0 : sw_Mem} {d k : Nat} {em : sw_Mt}
    (hem : sw_mt[k]? = some em) (hc : sw_okC em = true) (X : sw_X p R s m args c em.1 em.2.2.1 nL ad G D A M0 cells slots d) (hself : ∀ (k2 : Nat) (e : sw_Mt), sw_mt[k2]? = some e → sw_n e.2.2.2.2.2.1 0 < 2 → sw_okW e = true)
    (C : Nat → List Value → sw_Mem → Option Value → sw_Mem → Prop) (hC : ∀ k2 as M r M1, C k2 as M r M1 → sw_MetK l d k2 as M r M1) {r : Option Value} {M' : sw_Mem}
    (hret : ∀ (l1 : Array Slot) (H1 : Heap) (locs1 : List Loc) (pc1 op1 len1 : Nat) (zs1 : List Int) (ns1 : List Nat) (ls1 st1 : List Value), decode em.2.2.1 pc1 = .ok (sw_ins op1 pc1 zs1 ns1, len1) → (len1 = sw_len op1 ∨ sw_len op1 = 0) → sw_okR em.2.2.2.2.1 op1 = true → (op1 = 72 ∨ op1 = 73 ∨ op1 = 74 ∨ op1 = 75) →
      sw_op op1 pc1 len1 zs1 ns1 ls1 st1 M' = some (.inr (.inl (r, M'))) → sw_S ad G D A s M0 M' H1 locs1 → W p l e R s m args below meth c H1 locs1 cells slots Q (F0 m pc1 l1 (st1.map (sw_cv ad)))) :
    ∀ n pc l0 ls st M H locs, sw_ex C k n pc ls st M r M' → sw_S ad G D A s M0 M H locs → sw_lr ad nL l0 ls → W p l e R s m args below meth c H locs cells slots Q (F0 m pc l0 (st.map (sw_cv ad))) := by
  intro n
  induction n with
  | zero => intro pc l0 ls st M H locs h; exact h.elim
  | succ n ih =>
    intro pc l0 ls st M H locs h hS hl
    simp only [sw_ex] at h
    cases hf : sw_fetch k pc with
    | none => simp only [hf] at h
    | some en =>
      simp only [hf] at h
      obtain ⟨hpc, hE⟩ := sw_fetch_i hem hf hc
      subst hpc
      unfold sw_okE at hE
      rw [Bool.and_eq_true, Bool.and_eq_true, Bool.and_eq_true] at hE
      obtain ⟨⟨⟨hdg, hlen⟩, hok⟩, hR⟩ := hE
      have hdg := of_decide_eq_true hdg
      have hlen := of_decide_eq_true hlen
      cases hs : sw_stp en ls st M with
      | none => simp only [hs] at h
      | some q =>
        simp only [hs] at h
        have hop : sw_op en.2.1 en.1 en.2.2.1 en.2.2.2.1 en.2.2.2.2 ls st M = some q := hs
        rcases sw_all _ (sw_op_lt hop) with hk | hk | hk
        · obtain ⟨pc', ls', st', M1, rfl, hgo⟩ := hk p l e R s m args below meth c cells slots Q _ _ nL ad G D A M0 d X _ _ _ _ hdg hok hlen l0 ls st M H locs hS hl q hop
          exact hgo (fun l1 H1 locs1 hS1 hl1 => ih _ _ _ _ _ _ _ h hS1 hl1)
        · obtain ⟨k2, as, pc', ls', st', rfl, hgo⟩ := hk p l e R s m args below meth c cells slots Q _ _ nL ad G D A M0 d X hself _ _ _ _ hdg hok hlen l0 ls st M H locs hS hl q hop
          obtain ⟨r1, M1, hcall, h⟩ := h
          exact hgo r1 M1 (hC _ _ _ _ _ hcall) (fun l1 H1 locs1 hS1 hl1 => ih _ _ _ _ _ _ _ h hS1 hl1)
        · obtain ⟨r1, rfl⟩ := sw_ret_i hk hop
          obtain ⟨h1, h2⟩ := h
          have h1 : r = r1 := h1
          have h2 : M' = M := h2
          subst h1 h2
          exact hret l0 H locs _ _ _ _ _ _ _ hdg hlen hR hk hop hS
