/-! Arrays.fill -/
theorem i_fill_up (f : Nat → Int32) (x : Int32) (i : Nat) : upd (fun j => if j < i then x else f j) i x = fun j => if j < i + 1 then x else f j := by
  funext j
  by_cases h : j = i
  · subst h
    simp [upd]
  · by_cases h2 : j < i
    · simp [upd, h, h2, show j < i + 1 by omega]
    · simp [upd, h, h2, show ¬ j < i + 1 by omega]
set_option maxHeartbeats 4000000 in
set_option maxRecDepth 100000 in
theorem i_fill (l : Launch) (D : va_G) (G : sw_G) (a n : Nat) (f : Nat → Int32) (x : Int32) (hn : n < 2 ^ 30) (sz : Nat) : Met l yJ7_fill_53178 wsJ7_fill_53178 ({ frames := 0, cells := 0, slots := 0, locals := 0 }) (va_Pc [.ref a, .int x] (fun U => U.heap.size = sz ∧ va_P D vwCl [(a, .inl (G.1, n, .inl f))] U.heap ∧ va_K D vwCl (sw_tys G) U ∧ va_D (fun _ => True) [(a, .inl (G.1, n, .inl f))])) (va_Qv (fun _ : Unit => True) (fun _ t => va_P D vwCl [(a, .inl (G.1, n, .inl (fun j => if j < n then x else f j)))] t.heap ∧ va_D (va_A [(a, .inl (G.1, n, .inl f))] sz) [(a, .inl (G.1, n, .inl (fun j => if j < n then x else f j)))]) (va_A [(a, .inl (G.1, n, .inl f))] sz)) 0 0 (va_A [(a, .inl (G.1, n, .inl f))] sz) := by
  refine Met.ofW (cc := cJ7_fill_53178) (maxL := 4) (ret := none) (by decide) rfl ?_
  intro p e s m args below meth c s₁ B hml hv
  obtain ⟨rfl, hsz, hP, hK, hD0⟩ := hv
  have hx := B.exec
  have hb := B.bytes
  have hr := B.returns
  have hlocks := B.notSynchronized
  subst hsz
  have hD := hD0.self (sz := s.heap.size)
  generalize hAe : va_A [(a, .inl (G.1, n, .inl f))] s.heap.size = A at hD ⊢
  have hS : va_S A s.heap s.heap [] := va_S.rf
  have hP : va_P D vwCl [(a, .inl (G.1, n, .inl f))] s.heap := hP
  have hl := lv_entry ([.ref a, .int x]) (n := 4) (Nat.le_of_ble_eq_true rfl)
  rw [lg_entry_eq]
  generalize (lg_sl ([.ref a, .int x]) ++ List.replicate (4 - (lg_sl ([.ref a, .int x])).length) Slot.unset).toArray = ls at hl ⊢
  have hl : lv_has ls 4 [(0, .ref a), (1, .int x)] := hl
  refine lv_iconst (v := nI 0) hx hb dJ7_fill_53178_0 (by decide) ?_
  refine lv_istore_n (lv' := [(2, .int (nI 0)), (0, .ref a), (1, .int x)]) hx hb dJ7_fill_53178_1 rfl hl (by decide) rfl (fun ls hl => ?_)
  refine lv_aload_n hx hb dJ7_fill_53178_2 rfl (lv_at hl 1 rfl) ?_
  refine va_alen (v := nI n) hx hb hK hP 0 0 rfl rfl rfl dJ7_fill_53178_3 ?_
  refine lv_istore_n (lv' := [(3, .int (nI n)), (2, .int (nI 0)), (0, .ref a), (1, .int x)]) hx hb dJ7_fill_53178_4 rfl hl (by decide) rfl (fun ls hl => ?_)
  have h0 : (fun j => if j < 0 then x else f j) = f := by funext j; rw [if_neg (Nat.not_lt_zero j)]
  rw [← h0] at hP
  have hD : va_D A [(a, .inl (G.1, n, .inl (fun j => if j < 0 then x else f j)))] := by rw [h0]; exact hD
  have loop : ∀ k i (H : Heap) (locs : List Loc) (ls : Array Slot), i + k = n → va_P D vwCl [(a, .inl (G.1, n, .inl (fun j => if j < i then x else f j)))] H → va_D A [(a, .inl (G.1, n, .inl (fun j => if j < i then x else f j)))] → va_S A s.heap H locs → lv_has ls 4 [(3, .int (nI n)), (2, .int (nI i)), (0, .ref a), (1, .int x)] → W p l e (headSpec wsJ7_fill_53178 { frames := 0, cells := 0, slots := 0, locals := 0 }).room s m #[Value.ref a, Value.int x] below meth c H locs 0 0 (MQ below (va_Qv (fun _ : Unit => True) (fun _ t => va_P D vwCl [(a, .inl (G.1, n, .inl (fun j => if j < n then x else f j)))] t.heap ∧ va_D A [(a, .inl (G.1, n, .inl (fun j => if j < n then x else f j)))]) A) #[Value.ref a, Value.int x] s 0 0 A) (F0 m 5 ls []) := by
    intro k
    induction k with
    | zero =>
      intro i H locs ls hi hP hD hS hl
      obtain rfl : i = n := by omega
      refine lv_iload_n hx hb dJ7_fill_53178_5 rfl (lv_at hl 1 rfl) ?_
      refine lv_iload_n hx hb dJ7_fill_53178_6 rfl (lv_at hl 0 rfl) ?_
      refine lv_icmp_ge (tgt := 20) hx hb dJ7_fill_53178_7 (by decide) (fun _ => ?_) (fun h => absurd (nI_le (Nat.le_refl _) (by omega)) h)
      exact W.vret hx hb hr (fun t ht hW => ⟨⟨(), rfl, trivial, by rw [ht]; exact hP, hD⟩, hS.F ht⟩) hS.2.2 dJ7_fill_53178_20
    | succ k ih =>
      intro i H locs ls hi hP hD hS hl
      refine lv_iload_n hx hb dJ7_fill_53178_5 rfl (lv_at hl 1 rfl) ?_
      refine lv_iload_n hx hb dJ7_fill_53178_6 rfl (lv_at hl 0 rfl) ?_
      refine lv_icmp_ge (tgt := 20) hx hb dJ7_fill_53178_7 (by decide) (fun h => absurd h (nI_ge (by omega) (by omega))) (fun _ => ?_)
      refine lv_aload_n hx hb dJ7_fill_53178_10 rfl (lv_at hl 2 rfl) ?_
      refine lv_iload_n hx hb dJ7_fill_53178_11 rfl (lv_at hl 1 rfl) ?_
      refine lv_iload_n hx hb dJ7_fill_53178_12 rfl (lv_at hl 3 rfl) ?_
      refine va_iast hx hb hK hP hD hS 0 0 rfl rfl (vp_in_nI (show i < n by omega) (by omega)) dJ7_fill_53178_13 (fun H locs hP hD hS => ?_)
      rw [nI_clamp (show i < 2 ^ 31 by omega)] at hP hD
      have hP : va_P D vwCl [(a, .inl (G.1, n, .inl (upd (fun j => if j < i then x else f j) i x)))] H := hP
      have hD : va_D A [(a, .inl (G.1, n, .inl (upd (fun j => if j < i then x else f j) i x)))] := hD
      rw [i_fill_up] at hP hD
      refine lv_iinc (v := nI (i + 1)) (lv' := [(2, .int (nI (i + 1))), (3, .int (nI n)), (0, .ref a), (1, .int x)]) hx hb dJ7_fill_53178_14 hl (k := 1) rfl (nI_1 i) (by decide) rfl (fun ls hl => ?_)
      refine lv_goto (tgt := 5) hx hb dJ7_fill_53178_17 (by decide) ?_
      exact ih (i + 1) H locs ls (by omega) hP hD hS (lv_sub hl [1, 0, 2, 3] rfl)
  exact loop n 0 _ _ ls (by omega) hP hD hS hl
