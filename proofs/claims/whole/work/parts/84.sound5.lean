/-! every method's contract, out of the abstract machine's run -/
theorem sw_spread_has (ad : Nat → Nat) : ∀ (as : List Value) (o : Nat) (i : Nat) (v : Value), (sw_spread as)[i]? = some v → v ≠ sw_U → (o + i, sw_cv ad v) ∈ lv_args o (as.map (sw_cv ad))
  | [], o, i, v, h, _ => by simp [sw_spread] at h
  | a :: as, o, i, v, h, hv => by
    show (o + i, sw_cv ad v) ∈ (o, sw_cv ad a) :: lv_args (if (sw_cv ad a).category = 2 then o + 2 else o + 1) (as.map (sw_cv ad))
    rw [sw_cv_cat]
    by_cases hc : a.category = 2
    · have e : sw_spread (a :: as) = a :: sw_U :: sw_spread as := by simp [sw_spread, hc]
      rw [e] at h
      rw [if_pos hc]
      cases i with
      | zero =>
        simp at h
        subst h
        exact List.mem_cons_self
      | succ i =>
        cases i with
        | zero =>
          simp at h
          exact absurd h.symm hv
        | succ i =>
          have := sw_spread_has ad as (o + 2) i v (by simpa using h) hv
          rw [show o + (i + 1 + 1) = o + 2 + i by omega]
          exact List.mem_cons_of_mem _ this
    · have e : sw_spread (a :: as) = a :: sw_spread as := by simp [sw_spread, hc]
      rw [e] at h
      rw [if_neg hc]
      cases i with
      | zero =>
        simp at h
        subst h
        exact List.mem_cons_self
      | succ i =>
        have := sw_spread_has ad as (o + 1) i v (by simpa using h) hv
        rw [show o + (i + 1) = o + 1 + i by omega]
        exact List.mem_cons_of_mem _ this
theorem sw_spread_len (ad : Nat → Nat) (as : List Value) : (lg_sl (as.map (sw_cv ad))).length = (sw_spread as).length := by
  induction as with
  | nil => rfl
  | cons a as ih =>
    have e1 : lg_sl ((a :: as).map (sw_cv ad)) = (if a.category = 2 then [.val (sw_cv ad a), .second] else [.val (sw_cv ad a)]) ++ lg_sl (as.map (sw_cv ad)) := by
      rw [List.map_cons]
      simp only [lg_sl, List.flatMap_cons, sw_cv_cat]
    have e2 : sw_spread (a :: as) = (if a.category = 2 then [a, sw_U] else [a]) ++ sw_spread as := by simp only [sw_spread, List.flatMap_cons]
    rw [e1, e2, List.length_append, List.length_append, ih]
    by_cases hc : a.category = 2 <;> simp [hc]
theorem sw_entry {ad : Nat → Nat} {as : List Value} {nL : Nat} (h : (sw_spread as).length ≤ nL) : sw_lr ad nL ((lg_sl (as.map (sw_cv ad)) ++ List.replicate (nL - (lg_sl (as.map (sw_cv ad))).length) Slot.unset).toArray) (sw_spread as ++ List.replicate (nL - (sw_spread as).length) sw_U) := by
  refine ⟨_, lv_entry _ (by rw [sw_spread_len]; exact h), by simp; omega, fun i v hi hv => ?_⟩
  by_cases hl : i < (sw_spread as).length
  · rw [List.getElem?_append_left hl] at hi
    have := sw_spread_has ad as 0 i v hi hv
    rwa [Nat.zero_add] at this
  · rw [List.getElem?_append_right (by omega)] at hi
    have := List.eq_of_mem_replicate (List.mem_of_getElem? hi)
    exact absurd this hv
set_option maxHeartbeats 1000000 in
theorem sw_met_all (l : Launch) (hck : ∀ (k : Nat) (e : sw_Mt), sw_mt[k]? = some e → sw_okC e = true) (hself : ∀ (k2 : Nat) (e : sw_Mt), sw_mt[k2]? = some e → sw_n e.2.2.2.2.2.1 0 < 2 → sw_okW e = true) :
    ∀ d k as M r M1, sw_Ev d k as M r M1 → sw_MetK l d k as M r M1 := by
  intro d
  induction d with
  | zero => intro k as M r M1 h; exact h.elim
  | succ d ih =>
    intro k as M r M1 hEv em hem hW ad G D sz
    obtain ⟨hlen, n, hex⟩ := hEv
    have hmL : sw_mL k = em.2.2.2.1 := by unfold sw_mL; rw [hem]
    rw [hmL] at hlen
    obtain ⟨g1, g2, g3, g4, g5, g6, g7, g8, -, -⟩ := sw_okW_i hW
    refine Met.ofW (cc := em.2.2.1) (maxL := em.2.2.2.1) (ret := em.2.2.2.2.1) g2 rfl ?_
    intro p e s m args below meth c s₁ B hml hv
    obtain ⟨rfl, hsz, hP, hK, hD0, hRO⟩ := hv
    have hx := B.exec
    have hb := B.bytes
    have hr := B.returns
    have hlocks := B.notSynchronized
    have hts0 := atoms_spec (ws := .code em.2.1 em.2.2.1 em.2.2.2.1 em.2.2.2.2.1 :: sw_gt) B.pre
    have hts : ∀ w ∈ sw_gt, w.before (as.map (sw_cv ad)).toArray s = true := fun w hw => hts0 w (List.mem_cons_of_mem _ hw)
    have hown : s.vm.findClass em.2.1.cls = some m.cls := findClass_of_methodNamed B.named
    rw [g1] at hown
    subst hsz
    have hD := hD0.self (sz := s.heap.size)
    have hA : ∀ q : Nat, s.heap.size ≤ q → va_A (sw_ws ad G M) s.heap.size q := fun q h => Or.inr h
    have hS : sw_S ad G D (va_A (sw_ws ad G M) s.heap.size) s M M s.heap [] := ⟨hP, hD, va_S.rf, fun _ _ => rfl⟩
    rw [lg_entry_eq]
    have hl := sw_entry (ad := ad) hlen
    have hini : sw_init k as = sw_spread as ++ List.replicate (em.2.2.2.1 - (sw_spread as).length) sw_U := by unfold sw_init; rw [hem]
    rw [hini] at hex
    have X : sw_X p (headSpec (Cond.code em.2.1 em.2.2.1 em.2.2.2.1 em.2.2.2.2.1 :: sw_gt) (sw_rm (d + 1))).room s m (as.map (sw_cv ad)).toArray c em.1 em.2.2.1 em.2.2.2.1 ad G D (va_A (sw_ws ad G M) s.heap.size) M 0 0 d :=
      ⟨hx, hb, hml, hown, hts, hK, hA, hRO, Nat.le_refl _, Nat.le_refl _, Nat.zero_le _, Nat.zero_le _⟩
    refine sw_core hem (hck k em hem) X hself (sw_Ev d) ih ?_ n 0 _ _ [] M s.heap [] hex hS hl
    intro l1 H1 locs1 pc1 op1 len1 zs1 ns1 ls1 st1 hdg hln hR hop1 hop hS1
    rcases hop1 with rfl | rfl | rfl | rfl
    · obtain rfl : len1 = 1 := sw_len1 72 1 hln rfl (by decide)
      have hop : sw_oIret pc1 1 zs1 ns1 ls1 st1 M1 = some (.inr (.inl (r, M1))) := hop
      obtain ⟨x, rfl, hq⟩ := sw_oIret_i hop
      cases hq
      have hR : em.2.2.2.2.1 = some .int := of_decide_eq_true hR
      exact W.iret hx hb (hr.trans hR) (fun t ht hWm => ⟨⟨rfl, by rw [ht]; exact hS1.1, hS1.2.2.2⟩, hS1.2.2.1.F ht⟩) hS1.2.2.1.2.2 hdg
    · obtain rfl : len1 = 1 := sw_len1 73 1 hln rfl (by decide)
      have hop : sw_oZret pc1 1 zs1 ns1 ls1 st1 M1 = some (.inr (.inl (r, M1))) := hop
      obtain ⟨x, rfl, hx01, hq⟩ := sw_oZret_i hop
      cases hq
      have hR : em.2.2.2.2.1 = some .boolean := of_decide_eq_true hR
      exact W.zret hx hb (hr.trans hR) (sw_bool_nar hx01).1 (fun t ht hWm => ⟨⟨rfl, by rw [ht]; exact hS1.1, hS1.2.2.2⟩, hS1.2.2.1.F ht⟩) hS1.2.2.1.2.2 hdg
    · obtain rfl : len1 = 1 := sw_len1 74 1 hln rfl (by decide)
      have hop : sw_oAret pc1 1 zs1 ns1 ls1 st1 M1 = some (.inr (.inl (r, M1))) := hop
      obtain ⟨x, rfl, hq⟩ := sw_oAret_i hop
      cases hq
      have hR : em.2.2.2.2.1 = some (.object RX7) := of_decide_eq_true hR
      exact W.aret (v := .ref (ad x)) hx hb (hr.trans hR) (Or.inl ⟨_, rfl⟩) (Or.inr ⟨_, rfl⟩) (fun t ht hWm => ⟨⟨rfl, by rw [ht]; exact hS1.1, hS1.2.2.2⟩, hS1.2.2.1.F ht⟩) hS1.2.2.1.2.2 hdg
    · obtain rfl : len1 = 1 := sw_len1 75 1 hln rfl (by decide)
      have hop : sw_oVret pc1 1 zs1 ns1 ls1 st1 M1 = some (.inr (.inl (r, M1))) := hop
      obtain ⟨rfl, hq⟩ := sw_oVret_i hop
      cases hq
      have hR : em.2.2.2.2.1 = none := of_decide_eq_true hR
      exact W.vret hx hb (hr.trans hR) (fun t ht hWm => ⟨⟨rfl, by rw [ht]; exact hS1.1, hS1.2.2.2⟩, hS1.2.2.1.F ht⟩) hS1.2.2.1.2.2 hdg
