/-! the start of the law: classes, Kinds, the first memory and world (printed by program gen96.py) -/
theorem st_K {s : State} {args : Array Value} (hts : ∀ w ∈ lw_tbl, w.before args s = true) : ∃ (D : va_G) (G : sw_G), va_K D vwCl (sw_tys G) s := by
  obtain ⟨c0, i0, h0⟩ := u_known (n := 3) hts sw_inX0 (hts (.instantiable RX0 3) (by decide +kernel))
  obtain ⟨c1, i1, h1⟩ := u_known (n := 6) hts sw_inX1 (hts (.instantiable RX1 6) (by decide +kernel))
  obtain ⟨c2, i2, h2⟩ := u_known (n := 3) hts sw_inX2 (hts (.instantiable RX2 3) (by decide +kernel))
  obtain ⟨c4, i4, h4⟩ := u_known (n := 4) hts sw_inX4 (hts (.instantiable RX4 4) (by decide +kernel))
  obtain ⟨c5, i5, h5⟩ := u_known (n := 3) hts sw_inX5 (hts (.instantiable RX5 3) (by decide +kernel))
  obtain ⟨c6, i6, h6⟩ := u_known (n := 2) hts sw_inX6 (hts (.instantiable RX6 2) (by decide +kernel))
  obtain ⟨c7, i7, h7⟩ := u_known (n := 11) hts sw_inX7 (hts (.instantiable RX7 11) (by decide +kernel))
  obtain ⟨c8, i8, h8⟩ := u_known (n := 9) hts sw_inX8 (hts (.instantiable RX8 9) (by decide +kernel))
  obtain ⟨c9, i9, h9⟩ := u_known (n := 10) hts sw_inX9 (hts (.instantiable RX9 10) (by decide +kernel))
  obtain ⟨c10, i10, h10⟩ := u_known (n := 19) hts sw_inX10 (hts (.instantiable RX10 19) (by decide +kernel))
  obtain ⟨cI, kI, compI, a1, a2, a3⟩ := Cond.arrayClass_spec (hts (.arrayClass .int) (by decide +kernel))
  obtain ⟨cZ, kZ, compZ, b1, b2, b3⟩ := Cond.arrayClass_spec (hts (.arrayClass .boolean) (by decide +kernel))
  obtain ⟨compM, cM, kM, -, -, d2, d3, d4⟩ := arrayOverA_spec (hts (.arrayOver (.array .int)) (by decide +kernel))
  obtain ⟨compV, cV, kV, e1, -, e2, e3, e4⟩ := Cond.arrayOver_spec (hts (.arrayOver (.object RX7)) (by decide +kernel))
  refine ⟨(fun c => ([c0, c1, c2, c4, c5, c6, c7, c8, c9, c10] : List Nat).getD c 0, fun c => ([i0, i1, i2, i4, i5, i6, i7, i8, i9, i10] : List (Nat → Nat)).getD c (fun _ => 0)), (cI, cZ, cM, cV), fun c q h => ?_, fun k q h => ?_⟩
  · match c, h with
    | 0, h => cases h; exact h0
    | 1, h => cases h; exact h1
    | 2, h => cases h; exact h2
    | 3, h => cases h; exact h4
    | 4, h => cases h; exact h5
    | 5, h => cases h; exact h6
    | 6, h => cases h; exact h7
    | 7, h => cases h; exact h8
    | 8, h => cases h; exact h9
    | 9, h => cases h; exact h10
    | n + 10, h => simp [vwCl] at h
  · match k, h with
    | 0, h => cases h; exact ⟨fun n z => ⟨fun k h => (by cases h), kI, a2, compI, a3⟩, a1⟩
    | 1, h => cases h; exact ⟨fun n z => ⟨fun k h => (by cases h), kZ, b2, compZ, b3⟩, b1⟩
    | 2, h => cases h; exact ⟨fun n z => ⟨fun k h => (by cases h), kM, d2, compM, d3⟩, d4⟩
    | 3, h => cases h; exact ⟨fun n z => ⟨fun k h => (by cases h), kV, e2, compV, e3⟩, kV, compV, e2, e3, e1, e4⟩
    | n + 4, h => simp [sw_tys] at h
theorem st_len {args : Array Value} {s : State} {tm : Term} {v : Value} (hv : (Term.length tm).eval args s none [] s = some v) : ∃ (b : Nat) (cell : Cell), tm.eval args s none [] s = some (.ref b) ∧ s.arrayAt? b = some cell ∧ cell.slots.size < 2 ^ 31 := by
  obtain ⟨b, cell, ht, harr, -⟩ := Term.length_spec hv
  refine ⟨b, cell, ht, harr, ?_⟩
  simp only [Term.eval, ht, harr, Option.bind_eq_bind, Option.bind_some] at hv
  by_cases hlt : cell.slots.size < 2147483648
  · exact hlt
  · simp [hlt] at hv
theorem st_kin {s : State} {args : Array Value} {n : String} {f : Nat → Int32} {A : Nat → Prop} (hl : (Cond.laysStatic "StoneWed$Kinds" n "[I").before args s = true) (hini : (Cond.initialized "StoneWed$Kinds").before args s = true) (harr : (Cond.arrayOf (.static "StoneWed$Kinds" n "[I") .int).before args s = true) (hlen : (Cond.eq (.length (.static "StoneWed$Kinds" n "[I")) (.int 6)).before args s = true) (hel : ∀ j : Nat, j < 6 → (Cond.eq (.elem (.static "StoneWed$Kinds" n "[I") (.int (Int32.ofNat j))) (.int (f j))).before args s = true) (hA : ∀ a : Nat, a < s.heap.size → ¬ A a) : ∃ t : Nat, t < s.heap.size ∧ va_Z "StoneWed$Kinds" n "[I" (.ref t) A s s.heap ∧ va_X t 6 f s s.heap := by
  have hv : (Term.length (.static "StoneWed$Kinds" n "[I")).eval args s none [] s = some (.int (Int32.ofNat 6)) := va_eqt hlen
  obtain ⟨t, ht, cell, c1, c2, c3, c4, c5, c6, c7⟩ := va_Tof (N := 6) (f := fun j => .int (f j)) (by decide) harr hv (fun j hj => va_eqt (hel j hj)) hA
  obtain ⟨b, cell2, ht2, harr2, hsz⟩ := st_len hv
  cases ht.symm.trans ht2
  obtain ⟨hcell2, -⟩ := State.arrayAt?_spec harr2
  cases c1.symm.trans hcell2
  have e := congrArg Int32.toNatClampNeg c5
  have e1 : (cell.slots.size.toInt32).toNatClampNeg = cell.slots.size := Int32.toNatClampNeg_ofNat_of_lt hsz
  have e2 : (Int32.ofNat 6).toNatClampNeg = 6 := Int32.toNatClampNeg_ofNat_of_lt (by decide)
  rw [e1, e2] at e
  exact ⟨t, (Array.getElem?_eq_some_iff.mp c1).1, va_Zof hl hini ht hA, cell, c1, c2, c3, e, c6⟩
def st_k0 : Nat → Int32 := fun j => ([-1, nI 0, nI 1, nI 1, nI 0, nI 4] : List Int32).getD j 0
def st_k1 : Nat → Int32 := fun j => ([nI 10, nI 11, nI 12, nI 0, nI 13, nI 14] : List Int32).getD j 0
def st_k2 : Nat → Int32 := fun j => ([nI 20, nI 21, nI 24, nI 22, nI 23, nI 0] : List Int32).getD j 0
def iT (L : Nat) (xs : Nat → Int32) : List (Nat → Int32) := [(fun _ => 0), (fun _ => 0), (fun _ => 0), (fun _ => 0), (upd (upd (upd (upd (upd (upd (upd (upd (fun _ => 0) 0 (-1)) 1 (-1)) 2 (-1)) 3 (-1)) 4 (-1)) 5 (-1)) 6 (-1)) 7 (-1)), (fun _ => 0), (fun _ => 0), (fun _ => 0), (fun _ => 0), (fun _ => 0), (fun _ => 0), (fun _ => 0), (fun _ => 0), (fun _ => 0), (fun _ => 0), (fun _ => 0), (fun _ => 0), (fun _ => 0), (fun _ => 0), (fun _ => 0), (fun _ => 0), (fun _ => 0), (fun _ => 0), (fun j => if j < 8 then (-1) else (fun _ => 0) j), (fun _ => 0), (fun _ => 0), (fun _ => 0), (fun _ => 0), (fun _ => 0), (fun _ => 0), (fun _ => 0), (fun _ => 0), (fun j => if j < 4 then (-1000000) else (fun _ => 0) j), (fun _ => 0), (fun _ => 0), (fun _ => 0), (fun _ => 0), (fun _ => 0), (fun _ => 0), (fun j => if j < 4 then (-1000000) else (fun _ => 0) j), (fun _ => 0), (fun _ => 0), (fun _ => 0), (fun _ => 0), (fun _ => 0), (fun _ => 0), (fun _ => 0), (fun j => if j < 4 then (-1000000) else (fun _ => 0) j), (fun _ => 0), (fun _ => 0), (fun _ => 0), (fun _ => 0), (fun _ => 0), (fun _ => 0), (fun j => if j < 4 then (-1000000) else (fun _ => 0) j), (fun _ => 0), (fun _ => 0), (fun _ => 0), (fun _ => 0), (fun _ => 0), (fun _ => 0), (fun _ => 0), (fun _ => 0), (fun _ => 0), (fun _ => 0), (fun _ => 0), (fun _ => 0), (fun _ => 0), (fun _ => 0), (fun _ => 0), (fun _ => 0), (fun _ => 0), (fun _ => 0), (fun _ => 0), (fun _ => 0), (fun _ => 0), (fun _ => 0), (fun _ => 0), (fun _ => 0), (fun _ => 0), (fun _ => 0), (fun _ => 0), (fun _ => 0), (fun _ => 0), (fun _ => 0), (fun _ => 0), (fun _ => 0), (fun _ => 0), (fun j => if j < 4 then (-1000000) else (fun _ => 0) j), (fun _ => 0), (fun _ => 0), (fun j => if j = 5 then nI 92 else 0), (fun _ => 0), (fun _ => 0), (fun _ => 0), (fun _ => 0), (fun _ => 0), (fun j => if j < 4 then (-1000000) else (fun _ => 0) j), (fun _ => 0), (fun _ => 0), (fun _ => 0), (fun _ => 0), (fun _ => 0), (fun _ => 0), (fun _ => 0), (fun _ => 0), (fun _ => 0), (fun _ => 0), (fun _ => 0), st_k0, st_k1, st_k2, xs, (fun _ => nI L)]
def iM (L : Nat) (xs : Nat → Int32) : sw_Mem := fun k => (iT L xs).getD k (fun _ => 0)
def iA (q9 q10 : Nat) (u9 u10 : (Nat → Nat) × (Nat → Nat) × (Nat → Nat) × (Nat → Nat)) (t0 t1 t2 b : Nat) : Nat → Nat := fun k => ([q10, (u10.1 1), (u10.1 2), (u10.1 3), (u10.1 4), (u10.1 5), (u10.1 6), (u10.1 7), (u10.1 8), (u10.1 9), (u10.1 10), q9, (u9.1 1), (u9.1 2), (u9.2.1 0), (u9.2.1 1), (u9.2.1 2), (u9.2.1 3), (u9.2.1 4), (u9.2.1 5), (u9.2.1 6), (u9.2.1 7), (u9.1 11), (u9.1 12), (u9.1 13), (u9.1 14), (u9.1 15), (u9.1 16), (u9.1 17), (u9.1 18), (u9.1 19), (u9.1 20), (u9.1 21), (u9.1 22), (u9.1 23), (u9.1 24), (u9.1 25), (u9.1 26), (u9.1 27), (u9.1 28), (u9.1 29), (u9.1 30), (u9.1 31), (u9.1 32), (u9.1 33), (u9.1 34), (u9.1 35), (u9.1 36), (u9.1 37), (u9.1 38), (u9.1 39), (u9.1 40), (u9.1 41), (u9.1 42), (u9.1 43), (u9.1 44), (u9.1 45), (u9.1 46), (u9.2.2.1 0), (u9.2.2.1 1), (u9.2.2.1 2), (u9.2.2.1 3), (u9.2.2.1 4), (u9.2.2.1 5), (u9.2.2.1 6), (u9.2.2.1 7), (u9.2.2.1 8), (u9.2.2.1 9), (u9.2.2.1 10), (u9.2.2.1 11), (u9.2.2.1 12), (u9.2.2.1 13), (u9.2.2.1 14), (u9.2.2.1 15), (u9.2.2.1 16), (u9.2.2.1 17), (u9.2.2.1 18), (u9.2.2.1 19), (u9.2.2.1 20), (u9.2.2.1 21), (u9.2.2.1 22), (u9.2.2.1 23), (u9.1 71), (u9.1 72), (u9.1 73), (u9.1 74), (u9.1 75), (u9.1 76), (u9.1 77), (u9.1 78), (u9.1 79), (u9.1 80), (u9.1 81), (u9.1 82), (u9.1 83), (u9.1 84), (u9.1 85), (u9.1 86), (u9.1 87), (u9.1 88), (u9.2.2.2 0), (u9.2.2.2 1), (u9.2.2.2 2), (u9.2.2.2 3), (u9.1 93), (u9.1 94), (u9.1 95), (u9.1 96), (u9.1 97), t0, t1, t2, b] : List Nat).getD k 0
section STA
variable {q9 q10 : Nat} {u9 u10 : (Nat → Nat) × (Nat → Nat) × (Nat → Nat) × (Nat → Nat)} {t0 t1 t2 b L : Nat} {G : sw_G} {xs : Nat → Int32}
theorem st_e0 : sw_ec (iA q9 q10 u9 u10 t0 t1 t2 b) G 0 (iM L xs 0) = .inr (9, [.ref (u10.1 1), .int 0, .int 0, .ref (u10.1 2), .ref (u10.1 3), .ref (u10.1 4), .ref (u10.1 5), .ref (u10.1 6), .int 0, .int 0, .int 0, .ref (u10.1 7), .int 0, .int 0, .int 0, .int 0, .ref (u10.1 8), .ref (u10.1 9), .ref (u10.1 10)]) := (sw_ec_obj (c := 9) (by decide +kernel) (by decide)).trans rfl
theorem st_e1 : sw_ec (iA q9 q10 u9 u10 t0 t1 t2 b) G 1 (iM L xs 1) = .inl (G.1, 1148, .inl (fun _ => 0)) := sw_ec_10 (by decide +kernel)
theorem st_e2 : sw_ec (iA q9 q10 u9 u10 t0 t1 t2 b) G 2 (iM L xs 2) = .inl (G.2.1, 2, .inl (fun _ => 0)) := sw_ec_11 (by decide +kernel)
theorem st_e3 : sw_ec (iA q9 q10 u9 u10 t0 t1 t2 b) G 3 (iM L xs 3) = .inl (G.1, 8, .inl (fun _ => 0)) := sw_ec_10 (by decide +kernel)
theorem st_e4 : sw_ec (iA q9 q10 u9 u10 t0 t1 t2 b) G 4 (iM L xs 4) = .inl (G.1, 8, .inl (upd (upd (upd (upd (upd (upd (upd (upd (fun _ => 0) 0 (-1)) 1 (-1)) 2 (-1)) 3 (-1)) 4 (-1)) 5 (-1)) 6 (-1)) 7 (-1))) := sw_ec_10 (by decide +kernel)
theorem st_e5 : sw_ec (iA q9 q10 u9 u10 t0 t1 t2 b) G 5 (iM L xs 5) = .inl (G.1, 320, .inl (fun _ => 0)) := sw_ec_10 (by decide +kernel)
theorem st_e6 : sw_ec (iA q9 q10 u9 u10 t0 t1 t2 b) G 6 (iM L xs 6) = .inl (G.1, 100, .inl (fun _ => 0)) := sw_ec_10 (by decide +kernel)
theorem st_e7 : sw_ec (iA q9 q10 u9 u10 t0 t1 t2 b) G 7 (iM L xs 7) = .inl (G.1, 16, .inl (fun _ => 0)) := sw_ec_10 (by decide +kernel)
theorem st_e8 : sw_ec (iA q9 q10 u9 u10 t0 t1 t2 b) G 8 (iM L xs 8) = .inl (G.1, 4, .inl (fun _ => 0)) := sw_ec_10 (by decide +kernel)
theorem st_e9 : sw_ec (iA q9 q10 u9 u10 t0 t1 t2 b) G 9 (iM L xs 9) = .inl (G.1, 4, .inl (fun _ => 0)) := sw_ec_10 (by decide +kernel)
theorem st_e10 : sw_ec (iA q9 q10 u9 u10 t0 t1 t2 b) G 10 (iM L xs 10) = .inl (G.1, 4, .inl (fun _ => 0)) := sw_ec_10 (by decide +kernel)
theorem st_e11 : sw_ec (iA q9 q10 u9 u10 t0 t1 t2 b) G 11 (iM L xs 11) = .inr (8, [.ref (u9.1 1), .ref (u9.1 15), .ref (u9.1 23), .ref (u9.1 30), .ref (u9.1 45), .ref (u9.1 71), .ref (u9.1 80), .ref (u9.1 96), .int 0, .int 0]) := (sw_ec_obj (c := 8) (by decide +kernel) (by decide)).trans rfl
theorem st_e12 : sw_ec (iA q9 q10 u9 u10 t0 t1 t2 b) G 12 (iM L xs 12) = .inr (4, [.ref (u9.1 2), .ref (u9.1 11), .ref (u9.1 12)]) := (sw_ec_obj (c := 4) (by decide +kernel) (by decide)).trans rfl
theorem st_e13 : sw_ec (iA q9 q10 u9 u10 t0 t1 t2 b) G 13 (iM L xs 13) = .inl (G.2.2.1, 8, .inr (.inr (.inr (.inr (fun i => if i < 8 then some (u9.2.1 i) else none))))) := by
  rw [sw_ec_12 (by decide +kernel)]
  have h : sw_rf (iA q9 q10 u9 u10 t0 t1 t2 b) 13 = fun i => if i < 8 then some (u9.2.1 i) else none := by
    funext i
    by_cases hi : i < 8
    · rw [if_pos hi]
      rcases (show i = 0 ∨ i = 1 ∨ i = 2 ∨ i = 3 ∨ i = 4 ∨ i = 5 ∨ i = 6 ∨ i = 7 by omega) with rfl | rfl | rfl | rfl | rfl | rfl | rfl | rfl <;> rfl
    · rw [if_neg hi]
      exact if_neg hi
  rw [h]
  rfl
theorem st_e14 : sw_ec (iA q9 q10 u9 u10 t0 t1 t2 b) G 14 (iM L xs 14) = .inl (G.1, 40, .inl (fun _ => 0)) := sw_ec_10 (by decide +kernel)
theorem st_e15 : sw_ec (iA q9 q10 u9 u10 t0 t1 t2 b) G 15 (iM L xs 15) = .inl (G.1, 40, .inl (fun _ => 0)) := sw_ec_10 (by decide +kernel)
theorem st_e16 : sw_ec (iA q9 q10 u9 u10 t0 t1 t2 b) G 16 (iM L xs 16) = .inl (G.1, 40, .inl (fun _ => 0)) := sw_ec_10 (by decide +kernel)
theorem st_e17 : sw_ec (iA q9 q10 u9 u10 t0 t1 t2 b) G 17 (iM L xs 17) = .inl (G.1, 40, .inl (fun _ => 0)) := sw_ec_10 (by decide +kernel)
theorem st_e18 : sw_ec (iA q9 q10 u9 u10 t0 t1 t2 b) G 18 (iM L xs 18) = .inl (G.1, 40, .inl (fun _ => 0)) := sw_ec_10 (by decide +kernel)
theorem st_e19 : sw_ec (iA q9 q10 u9 u10 t0 t1 t2 b) G 19 (iM L xs 19) = .inl (G.1, 40, .inl (fun _ => 0)) := sw_ec_10 (by decide +kernel)
theorem st_e20 : sw_ec (iA q9 q10 u9 u10 t0 t1 t2 b) G 20 (iM L xs 20) = .inl (G.1, 40, .inl (fun _ => 0)) := sw_ec_10 (by decide +kernel)
theorem st_e21 : sw_ec (iA q9 q10 u9 u10 t0 t1 t2 b) G 21 (iM L xs 21) = .inl (G.1, 40, .inl (fun _ => 0)) := sw_ec_10 (by decide +kernel)
theorem st_e22 : sw_ec (iA q9 q10 u9 u10 t0 t1 t2 b) G 22 (iM L xs 22) = .inl (G.1, 8, .inl (fun _ => 0)) := sw_ec_10 (by decide +kernel)
theorem st_e23 : sw_ec (iA q9 q10 u9 u10 t0 t1 t2 b) G 23 (iM L xs 23) = .inl (G.1, 8, .inl (fun j => if j < 8 then (-1) else (fun _ => 0) j)) := sw_ec_10 (by decide +kernel)
theorem st_e24 : sw_ec (iA q9 q10 u9 u10 t0 t1 t2 b) G 24 (iM L xs 24) = .inr (5, [.ref (u9.1 14), .int 0]) := (sw_ec_obj (c := 5) (by decide +kernel) (by decide)).trans rfl
theorem st_e25 : sw_ec (iA q9 q10 u9 u10 t0 t1 t2 b) G 25 (iM L xs 25) = .inl (G.1, 100, .inl (fun _ => 0)) := sw_ec_10 (by decide +kernel)
theorem st_e26 : sw_ec (iA q9 q10 u9 u10 t0 t1 t2 b) G 26 (iM L xs 26) = .inr (3, [.ref (u9.1 13), .ref (u9.1 16), .int 0, .int 0]) := (sw_ec_obj (c := 3) (by decide +kernel) (by decide)).trans rfl
theorem st_e27 : sw_ec (iA q9 q10 u9 u10 t0 t1 t2 b) G 27 (iM L xs 27) = .inr (6, [.int 0, .int 0, .int 0, .int 0, .int 0, .ref (u9.1 17), .ref (u9.1 18), .ref (u9.1 19), .ref (u9.1 20), .ref (u9.1 21), .ref (u9.1 22)]) := (sw_ec_obj (c := 6) (by decide +kernel) (by decide)).trans rfl
theorem st_e28 : sw_ec (iA q9 q10 u9 u10 t0 t1 t2 b) G 28 (iM L xs 28) = .inl (G.1, 8, .inl (fun _ => 0)) := sw_ec_10 (by decide +kernel)
theorem st_e29 : sw_ec (iA q9 q10 u9 u10 t0 t1 t2 b) G 29 (iM L xs 29) = .inl (G.1, 8, .inl (fun _ => 0)) := sw_ec_10 (by decide +kernel)
theorem st_e30 : sw_ec (iA q9 q10 u9 u10 t0 t1 t2 b) G 30 (iM L xs 30) = .inl (G.1, 8, .inl (fun _ => 0)) := sw_ec_10 (by decide +kernel)
theorem st_e31 : sw_ec (iA q9 q10 u9 u10 t0 t1 t2 b) G 31 (iM L xs 31) = .inl (G.1, 4, .inl (fun _ => 0)) := sw_ec_10 (by decide +kernel)
theorem st_e32 : sw_ec (iA q9 q10 u9 u10 t0 t1 t2 b) G 32 (iM L xs 32) = .inl (G.1, 4, .inl (fun j => if j < 4 then (-1000000) else (fun _ => 0) j)) := sw_ec_10 (by decide +kernel)
theorem st_e33 : sw_ec (iA q9 q10 u9 u10 t0 t1 t2 b) G 33 (iM L xs 33) = .inl (G.1, 4, .inl (fun _ => 0)) := sw_ec_10 (by decide +kernel)
theorem st_e34 : sw_ec (iA q9 q10 u9 u10 t0 t1 t2 b) G 34 (iM L xs 34) = .inr (6, [.int 0, .int 0, .int 0, .int 0, .int 0, .ref (u9.1 24), .ref (u9.1 25), .ref (u9.1 26), .ref (u9.1 27), .ref (u9.1 28), .ref (u9.1 29)]) := (sw_ec_obj (c := 6) (by decide +kernel) (by decide)).trans rfl
theorem st_e35 : sw_ec (iA q9 q10 u9 u10 t0 t1 t2 b) G 35 (iM L xs 35) = .inl (G.1, 8, .inl (fun _ => 0)) := sw_ec_10 (by decide +kernel)
theorem st_e36 : sw_ec (iA q9 q10 u9 u10 t0 t1 t2 b) G 36 (iM L xs 36) = .inl (G.1, 8, .inl (fun _ => 0)) := sw_ec_10 (by decide +kernel)
theorem st_e37 : sw_ec (iA q9 q10 u9 u10 t0 t1 t2 b) G 37 (iM L xs 37) = .inl (G.1, 8, .inl (fun _ => 0)) := sw_ec_10 (by decide +kernel)
theorem st_e38 : sw_ec (iA q9 q10 u9 u10 t0 t1 t2 b) G 38 (iM L xs 38) = .inl (G.1, 4, .inl (fun _ => 0)) := sw_ec_10 (by decide +kernel)
theorem st_e39 : sw_ec (iA q9 q10 u9 u10 t0 t1 t2 b) G 39 (iM L xs 39) = .inl (G.1, 4, .inl (fun j => if j < 4 then (-1000000) else (fun _ => 0) j)) := sw_ec_10 (by decide +kernel)
theorem st_e40 : sw_ec (iA q9 q10 u9 u10 t0 t1 t2 b) G 40 (iM L xs 40) = .inl (G.1, 4, .inl (fun _ => 0)) := sw_ec_10 (by decide +kernel)
theorem st_e41 : sw_ec (iA q9 q10 u9 u10 t0 t1 t2 b) G 41 (iM L xs 41) = .inl (G.2.2.2, 2, .inr (.inr (.inr (.inr (va_up (va_up (fun _ => none) 0 (some ((u9.1 31)))) 1 (some ((u9.1 38)))))))) := by
  rw [sw_ec_13 (by decide +kernel)]
  have h : sw_rf (iA q9 q10 u9 u10 t0 t1 t2 b) 41 = (va_up (va_up (fun _ => none) 0 (some ((u9.1 31)))) 1 (some ((u9.1 38)))) := by
    funext i
    by_cases hi : i < 2
    · rcases (show i = 0 ∨ i = 1 by omega) with rfl | rfl <;> rfl
    · rw [show sw_rf (iA q9 q10 u9 u10 t0 t1 t2 b) 41 i = none from if_neg hi]
      unfold va_up
      rw [if_neg (by omega), if_neg (by omega)]
  rw [h]
  rfl
theorem st_e42 : sw_ec (iA q9 q10 u9 u10 t0 t1 t2 b) G 42 (iM L xs 42) = .inr (6, [.int 0, .int 0, .int 0, .int 0, .int 0, .ref (u9.1 32), .ref (u9.1 33), .ref (u9.1 34), .ref (u9.1 35), .ref (u9.1 36), .ref (u9.1 37)]) := (sw_ec_obj (c := 6) (by decide +kernel) (by decide)).trans rfl
theorem st_e43 : sw_ec (iA q9 q10 u9 u10 t0 t1 t2 b) G 43 (iM L xs 43) = .inl (G.1, 8, .inl (fun _ => 0)) := sw_ec_10 (by decide +kernel)
theorem st_e44 : sw_ec (iA q9 q10 u9 u10 t0 t1 t2 b) G 44 (iM L xs 44) = .inl (G.1, 8, .inl (fun _ => 0)) := sw_ec_10 (by decide +kernel)
theorem st_e45 : sw_ec (iA q9 q10 u9 u10 t0 t1 t2 b) G 45 (iM L xs 45) = .inl (G.1, 8, .inl (fun _ => 0)) := sw_ec_10 (by decide +kernel)
theorem st_e46 : sw_ec (iA q9 q10 u9 u10 t0 t1 t2 b) G 46 (iM L xs 46) = .inl (G.1, 4, .inl (fun _ => 0)) := sw_ec_10 (by decide +kernel)
theorem st_e47 : sw_ec (iA q9 q10 u9 u10 t0 t1 t2 b) G 47 (iM L xs 47) = .inl (G.1, 4, .inl (fun j => if j < 4 then (-1000000) else (fun _ => 0) j)) := sw_ec_10 (by decide +kernel)
theorem st_e48 : sw_ec (iA q9 q10 u9 u10 t0 t1 t2 b) G 48 (iM L xs 48) = .inl (G.1, 4, .inl (fun _ => 0)) := sw_ec_10 (by decide +kernel)
theorem st_e49 : sw_ec (iA q9 q10 u9 u10 t0 t1 t2 b) G 49 (iM L xs 49) = .inr (6, [.int 0, .int 0, .int 0, .int 0, .int 0, .ref (u9.1 39), .ref (u9.1 40), .ref (u9.1 41), .ref (u9.1 42), .ref (u9.1 43), .ref (u9.1 44)]) := (sw_ec_obj (c := 6) (by decide +kernel) (by decide)).trans rfl
theorem st_e50 : sw_ec (iA q9 q10 u9 u10 t0 t1 t2 b) G 50 (iM L xs 50) = .inl (G.1, 8, .inl (fun _ => 0)) := sw_ec_10 (by decide +kernel)
theorem st_e51 : sw_ec (iA q9 q10 u9 u10 t0 t1 t2 b) G 51 (iM L xs 51) = .inl (G.1, 8, .inl (fun _ => 0)) := sw_ec_10 (by decide +kernel)
theorem st_e52 : sw_ec (iA q9 q10 u9 u10 t0 t1 t2 b) G 52 (iM L xs 52) = .inl (G.1, 8, .inl (fun _ => 0)) := sw_ec_10 (by decide +kernel)
theorem st_e53 : sw_ec (iA q9 q10 u9 u10 t0 t1 t2 b) G 53 (iM L xs 53) = .inl (G.1, 4, .inl (fun _ => 0)) := sw_ec_10 (by decide +kernel)
theorem st_e54 : sw_ec (iA q9 q10 u9 u10 t0 t1 t2 b) G 54 (iM L xs 54) = .inl (G.1, 4, .inl (fun j => if j < 4 then (-1000000) else (fun _ => 0) j)) := sw_ec_10 (by decide +kernel)
theorem st_e55 : sw_ec (iA q9 q10 u9 u10 t0 t1 t2 b) G 55 (iM L xs 55) = .inl (G.1, 4, .inl (fun _ => 0)) := sw_ec_10 (by decide +kernel)
theorem st_e56 : sw_ec (iA q9 q10 u9 u10 t0 t1 t2 b) G 56 (iM L xs 56) = .inr (0, [.ref (u9.1 46), .int 0, .int 0]) := (sw_ec_obj (c := 0) (by decide +kernel) (by decide)).trans rfl
theorem st_e57 : sw_ec (iA q9 q10 u9 u10 t0 t1 t2 b) G 57 (iM L xs 57) = .inl (G.2.2.1, 24, .inr (.inr (.inr (.inr (fun i => if i < 24 then some (u9.2.2.1 i) else none))))) := by
  rw [sw_ec_12 (by decide +kernel)]
  have h : sw_rf (iA q9 q10 u9 u10 t0 t1 t2 b) 57 = fun i => if i < 24 then some (u9.2.2.1 i) else none := by
    funext i
    by_cases hi : i < 24
    · rw [if_pos hi]
      rcases (show i = 0 ∨ i = 1 ∨ i = 2 ∨ i = 3 ∨ i = 4 ∨ i = 5 ∨ i = 6 ∨ i = 7 ∨ i = 8 ∨ i = 9 ∨ i = 10 ∨ i = 11 ∨ i = 12 ∨ i = 13 ∨ i = 14 ∨ i = 15 ∨ i = 16 ∨ i = 17 ∨ i = 18 ∨ i = 19 ∨ i = 20 ∨ i = 21 ∨ i = 22 ∨ i = 23 by omega) with rfl | rfl | rfl | rfl | rfl | rfl | rfl | rfl | rfl | rfl | rfl | rfl | rfl | rfl | rfl | rfl | rfl | rfl | rfl | rfl | rfl | rfl | rfl | rfl <;> rfl
    · rw [if_neg hi]
      exact if_neg hi
  rw [h]
  rfl
theorem st_e58 : sw_ec (iA q9 q10 u9 u10 t0 t1 t2 b) G 58 (iM L xs 58) = .inl (G.1, 17, .inl (fun _ => 0)) := sw_ec_10 (by decide +kernel)
theorem st_e59 : sw_ec (iA q9 q10 u9 u10 t0 t1 t2 b) G 59 (iM L xs 59) = .inl (G.1, 17, .inl (fun _ => 0)) := sw_ec_10 (by decide +kernel)
theorem st_e60 : sw_ec (iA q9 q10 u9 u10 t0 t1 t2 b) G 60 (iM L xs 60) = .inl (G.1, 17, .inl (fun _ => 0)) := sw_ec_10 (by decide +kernel)
theorem st_e61 : sw_ec (iA q9 q10 u9 u10 t0 t1 t2 b) G 61 (iM L xs 61) = .inl (G.1, 17, .inl (fun _ => 0)) := sw_ec_10 (by decide +kernel)
theorem st_e62 : sw_ec (iA q9 q10 u9 u10 t0 t1 t2 b) G 62 (iM L xs 62) = .inl (G.1, 17, .inl (fun _ => 0)) := sw_ec_10 (by decide +kernel)
theorem st_e63 : sw_ec (iA q9 q10 u9 u10 t0 t1 t2 b) G 63 (iM L xs 63) = .inl (G.1, 17, .inl (fun _ => 0)) := sw_ec_10 (by decide +kernel)
theorem st_e64 : sw_ec (iA q9 q10 u9 u10 t0 t1 t2 b) G 64 (iM L xs 64) = .inl (G.1, 17, .inl (fun _ => 0)) := sw_ec_10 (by decide +kernel)
theorem st_e65 : sw_ec (iA q9 q10 u9 u10 t0 t1 t2 b) G 65 (iM L xs 65) = .inl (G.1, 17, .inl (fun _ => 0)) := sw_ec_10 (by decide +kernel)
theorem st_e66 : sw_ec (iA q9 q10 u9 u10 t0 t1 t2 b) G 66 (iM L xs 66) = .inl (G.1, 17, .inl (fun _ => 0)) := sw_ec_10 (by decide +kernel)
theorem st_e67 : sw_ec (iA q9 q10 u9 u10 t0 t1 t2 b) G 67 (iM L xs 67) = .inl (G.1, 17, .inl (fun _ => 0)) := sw_ec_10 (by decide +kernel)
theorem st_e68 : sw_ec (iA q9 q10 u9 u10 t0 t1 t2 b) G 68 (iM L xs 68) = .inl (G.1, 17, .inl (fun _ => 0)) := sw_ec_10 (by decide +kernel)
theorem st_e69 : sw_ec (iA q9 q10 u9 u10 t0 t1 t2 b) G 69 (iM L xs 69) = .inl (G.1, 17, .inl (fun _ => 0)) := sw_ec_10 (by decide +kernel)
theorem st_e70 : sw_ec (iA q9 q10 u9 u10 t0 t1 t2 b) G 70 (iM L xs 70) = .inl (G.1, 17, .inl (fun _ => 0)) := sw_ec_10 (by decide +kernel)
theorem st_e71 : sw_ec (iA q9 q10 u9 u10 t0 t1 t2 b) G 71 (iM L xs 71) = .inl (G.1, 17, .inl (fun _ => 0)) := sw_ec_10 (by decide +kernel)
theorem st_e72 : sw_ec (iA q9 q10 u9 u10 t0 t1 t2 b) G 72 (iM L xs 72) = .inl (G.1, 17, .inl (fun _ => 0)) := sw_ec_10 (by decide +kernel)
theorem st_e73 : sw_ec (iA q9 q10 u9 u10 t0 t1 t2 b) G 73 (iM L xs 73) = .inl (G.1, 17, .inl (fun _ => 0)) := sw_ec_10 (by decide +kernel)
theorem st_e74 : sw_ec (iA q9 q10 u9 u10 t0 t1 t2 b) G 74 (iM L xs 74) = .inl (G.1, 17, .inl (fun _ => 0)) := sw_ec_10 (by decide +kernel)
theorem st_e75 : sw_ec (iA q9 q10 u9 u10 t0 t1 t2 b) G 75 (iM L xs 75) = .inl (G.1, 17, .inl (fun _ => 0)) := sw_ec_10 (by decide +kernel)
theorem st_e76 : sw_ec (iA q9 q10 u9 u10 t0 t1 t2 b) G 76 (iM L xs 76) = .inl (G.1, 17, .inl (fun _ => 0)) := sw_ec_10 (by decide +kernel)
theorem st_e77 : sw_ec (iA q9 q10 u9 u10 t0 t1 t2 b) G 77 (iM L xs 77) = .inl (G.1, 17, .inl (fun _ => 0)) := sw_ec_10 (by decide +kernel)
theorem st_e78 : sw_ec (iA q9 q10 u9 u10 t0 t1 t2 b) G 78 (iM L xs 78) = .inl (G.1, 17, .inl (fun _ => 0)) := sw_ec_10 (by decide +kernel)
theorem st_e79 : sw_ec (iA q9 q10 u9 u10 t0 t1 t2 b) G 79 (iM L xs 79) = .inl (G.1, 17, .inl (fun _ => 0)) := sw_ec_10 (by decide +kernel)
theorem st_e80 : sw_ec (iA q9 q10 u9 u10 t0 t1 t2 b) G 80 (iM L xs 80) = .inl (G.1, 17, .inl (fun _ => 0)) := sw_ec_10 (by decide +kernel)
theorem st_e81 : sw_ec (iA q9 q10 u9 u10 t0 t1 t2 b) G 81 (iM L xs 81) = .inl (G.1, 17, .inl (fun _ => 0)) := sw_ec_10 (by decide +kernel)
theorem st_e82 : sw_ec (iA q9 q10 u9 u10 t0 t1 t2 b) G 82 (iM L xs 82) = .inr (2, [.ref (u9.1 72), .ref (u9.1 79), .int 0]) := (sw_ec_obj (c := 2) (by decide +kernel) (by decide)).trans rfl
theorem st_e83 : sw_ec (iA q9 q10 u9 u10 t0 t1 t2 b) G 83 (iM L xs 83) = .inr (6, [.int 0, .int 0, .int 0, .int 0, .int 0, .ref (u9.1 73), .ref (u9.1 74), .ref (u9.1 75), .ref (u9.1 76), .ref (u9.1 77), .ref (u9.1 78)]) := (sw_ec_obj (c := 6) (by decide +kernel) (by decide)).trans rfl
theorem st_e84 : sw_ec (iA q9 q10 u9 u10 t0 t1 t2 b) G 84 (iM L xs 84) = .inl (G.1, 8, .inl (fun _ => 0)) := sw_ec_10 (by decide +kernel)
theorem st_e85 : sw_ec (iA q9 q10 u9 u10 t0 t1 t2 b) G 85 (iM L xs 85) = .inl (G.1, 8, .inl (fun _ => 0)) := sw_ec_10 (by decide +kernel)
theorem st_e86 : sw_ec (iA q9 q10 u9 u10 t0 t1 t2 b) G 86 (iM L xs 86) = .inl (G.1, 8, .inl (fun _ => 0)) := sw_ec_10 (by decide +kernel)
theorem st_e87 : sw_ec (iA q9 q10 u9 u10 t0 t1 t2 b) G 87 (iM L xs 87) = .inl (G.1, 4, .inl (fun _ => 0)) := sw_ec_10 (by decide +kernel)
theorem st_e88 : sw_ec (iA q9 q10 u9 u10 t0 t1 t2 b) G 88 (iM L xs 88) = .inl (G.1, 4, .inl (fun j => if j < 4 then (-1000000) else (fun _ => 0) j)) := sw_ec_10 (by decide +kernel)
theorem st_e89 : sw_ec (iA q9 q10 u9 u10 t0 t1 t2 b) G 89 (iM L xs 89) = .inl (G.1, 4, .inl (fun _ => 0)) := sw_ec_10 (by decide +kernel)
theorem st_e90 : sw_ec (iA q9 q10 u9 u10 t0 t1 t2 b) G 90 (iM L xs 90) = .inl (G.1, 16, .inl (fun _ => 0)) := sw_ec_10 (by decide +kernel)
theorem st_e91 : sw_ec (iA q9 q10 u9 u10 t0 t1 t2 b) G 91 (iM L xs 91) = .inr (7, [.ref (u9.1 81), .ref (u9.1 88), .ref (u9.1 93), .ref (u9.1 94), .ref (u9.1 95), .ref (u9.1 81), .int 0, .int 0, .int 0]) := by
  rw [sw_ec_obj (c := 7) (by decide +kernel) (by decide)]
  show Sum.inr (_, [_, _, _, _, _, Value.ref (iA q9 q10 u9 u10 t0 t1 t2 b (nI 92).toNatClampNeg), _, _, _]) = _
  rw [nI_clamp (show 92 < 2 ^ 31 by decide)]
  rfl
theorem st_e92 : sw_ec (iA q9 q10 u9 u10 t0 t1 t2 b) G 92 (iM L xs 92) = .inr (6, [.int 0, .int 0, .int 0, .int 0, .int 0, .ref (u9.1 82), .ref (u9.1 83), .ref (u9.1 84), .ref (u9.1 85), .ref (u9.1 86), .ref (u9.1 87)]) := (sw_ec_obj (c := 6) (by decide +kernel) (by decide)).trans rfl
theorem st_e93 : sw_ec (iA q9 q10 u9 u10 t0 t1 t2 b) G 93 (iM L xs 93) = .inl (G.1, 8, .inl (fun _ => 0)) := sw_ec_10 (by decide +kernel)
theorem st_e94 : sw_ec (iA q9 q10 u9 u10 t0 t1 t2 b) G 94 (iM L xs 94) = .inl (G.1, 8, .inl (fun _ => 0)) := sw_ec_10 (by decide +kernel)
theorem st_e95 : sw_ec (iA q9 q10 u9 u10 t0 t1 t2 b) G 95 (iM L xs 95) = .inl (G.1, 8, .inl (fun _ => 0)) := sw_ec_10 (by decide +kernel)
theorem st_e96 : sw_ec (iA q9 q10 u9 u10 t0 t1 t2 b) G 96 (iM L xs 96) = .inl (G.1, 4, .inl (fun _ => 0)) := sw_ec_10 (by decide +kernel)
theorem st_e97 : sw_ec (iA q9 q10 u9 u10 t0 t1 t2 b) G 97 (iM L xs 97) = .inl (G.1, 4, .inl (fun j => if j < 4 then (-1000000) else (fun _ => 0) j)) := sw_ec_10 (by decide +kernel)
theorem st_e98 : sw_ec (iA q9 q10 u9 u10 t0 t1 t2 b) G 98 (iM L xs 98) = .inl (G.1, 4, .inl (fun _ => 0)) := sw_ec_10 (by decide +kernel)
theorem st_e99 : sw_ec (iA q9 q10 u9 u10 t0 t1 t2 b) G 99 (iM L xs 99) = .inl (G.2.2.1, 4, .inr (.inr (.inr (.inr (fun i => if i < 4 then some (u9.2.2.2 i) else none))))) := by
  rw [sw_ec_12 (by decide +kernel)]
  have h : sw_rf (iA q9 q10 u9 u10 t0 t1 t2 b) 99 = fun i => if i < 4 then some (u9.2.2.2 i) else none := by
    funext i
    by_cases hi : i < 4
    · rw [if_pos hi]
      rcases (show i = 0 ∨ i = 1 ∨ i = 2 ∨ i = 3 by omega) with rfl | rfl | rfl | rfl <;> rfl
    · rw [if_neg hi]
      exact if_neg hi
  rw [h]
  rfl
theorem st_e100 : sw_ec (iA q9 q10 u9 u10 t0 t1 t2 b) G 100 (iM L xs 100) = .inl (G.1, 4, .inl (fun _ => 0)) := sw_ec_10 (by decide +kernel)
theorem st_e101 : sw_ec (iA q9 q10 u9 u10 t0 t1 t2 b) G 101 (iM L xs 101) = .inl (G.1, 4, .inl (fun _ => 0)) := sw_ec_10 (by decide +kernel)
theorem st_e102 : sw_ec (iA q9 q10 u9 u10 t0 t1 t2 b) G 102 (iM L xs 102) = .inl (G.1, 4, .inl (fun _ => 0)) := sw_ec_10 (by decide +kernel)
theorem st_e103 : sw_ec (iA q9 q10 u9 u10 t0 t1 t2 b) G 103 (iM L xs 103) = .inl (G.1, 4, .inl (fun _ => 0)) := sw_ec_10 (by decide +kernel)
theorem st_e104 : sw_ec (iA q9 q10 u9 u10 t0 t1 t2 b) G 104 (iM L xs 104) = .inl (G.1, 4, .inl (fun _ => 0)) := sw_ec_10 (by decide +kernel)
theorem st_e105 : sw_ec (iA q9 q10 u9 u10 t0 t1 t2 b) G 105 (iM L xs 105) = .inl (G.1, 4, .inl (fun _ => 0)) := sw_ec_10 (by decide +kernel)
theorem st_e106 : sw_ec (iA q9 q10 u9 u10 t0 t1 t2 b) G 106 (iM L xs 106) = .inl (G.1, 4, .inl (fun _ => 0)) := sw_ec_10 (by decide +kernel)
theorem st_e107 : sw_ec (iA q9 q10 u9 u10 t0 t1 t2 b) G 107 (iM L xs 107) = .inr (1, [.ref (u9.1 97), .int 0, .int 0, .int 0, .int 0, .int 0]) := (sw_ec_obj (c := 1) (by decide +kernel) (by decide)).trans rfl
theorem st_e108 : sw_ec (iA q9 q10 u9 u10 t0 t1 t2 b) G 108 (iM L xs 108) = .inl (G.1, 16, .inl (fun _ => 0)) := sw_ec_10 (by decide +kernel)
set_option maxRecDepth 100000 in
theorem st_ws : sw_ws (iA q9 q10 u9 u10 t0 t1 t2 b) G (iM L xs) = [(q10, .inr (9, [.ref (u10.1 1), .int 0, .int 0, .ref (u10.1 2), .ref (u10.1 3), .ref (u10.1 4), .ref (u10.1 5), .ref (u10.1 6), .int 0, .int 0, .int 0, .ref (u10.1 7), .int 0, .int 0, .int 0, .int 0, .ref (u10.1 8), .ref (u10.1 9), .ref (u10.1 10)])), ((u10.1 1), .inl (G.1, 1148, .inl (fun _ => 0))), ((u10.1 2), .inl (G.2.1, 2, .inl (fun _ => 0))), ((u10.1 3), .inl (G.1, 8, .inl (fun _ => 0))), ((u10.1 4), .inl (G.1, 8, .inl (upd (upd (upd (upd (upd (upd (upd (upd (fun _ => 0) 0 (-1)) 1 (-1)) 2 (-1)) 3 (-1)) 4 (-1)) 5 (-1)) 6 (-1)) 7 (-1)))), ((u10.1 5), .inl (G.1, 320, .inl (fun _ => 0))), ((u10.1 6), .inl (G.1, 100, .inl (fun _ => 0))), ((u10.1 7), .inl (G.1, 16, .inl (fun _ => 0))), ((u10.1 8), .inl (G.1, 4, .inl (fun _ => 0))), ((u10.1 9), .inl (G.1, 4, .inl (fun _ => 0))), ((u10.1 10), .inl (G.1, 4, .inl (fun _ => 0))), (q9, .inr (8, [.ref (u9.1 1), .ref (u9.1 15), .ref (u9.1 23), .ref (u9.1 30), .ref (u9.1 45), .ref (u9.1 71), .ref (u9.1 80), .ref (u9.1 96), .int 0, .int 0])), ((u9.1 1), .inr (4, [.ref (u9.1 2), .ref (u9.1 11), .ref (u9.1 12)])), ((u9.1 2), .inl (G.2.2.1, 8, .inr (.inr (.inr (.inr (fun i => if i < 8 then some (u9.2.1 i) else none)))))), ((u9.2.1 0), .inl (G.1, 40, .inl (fun _ => 0))), ((u9.2.1 1), .inl (G.1, 40, .inl (fun _ => 0))), ((u9.2.1 2), .inl (G.1, 40, .inl (fun _ => 0))), ((u9.2.1 3), .inl (G.1, 40, .inl (fun _ => 0))), ((u9.2.1 4), .inl (G.1, 40, .inl (fun _ => 0))), ((u9.2.1 5), .inl (G.1, 40, .inl (fun _ => 0))), ((u9.2.1 6), .inl (G.1, 40, .inl (fun _ => 0))), ((u9.2.1 7), .inl (G.1, 40, .inl (fun _ => 0))), ((u9.1 11), .inl (G.1, 8, .inl (fun _ => 0))), ((u9.1 12), .inl (G.1, 8, .inl (fun j => if j < 8 then (-1) else (fun _ => 0) j))), ((u9.1 13), .inr (5, [.ref (u9.1 14), .int 0])), ((u9.1 14), .inl (G.1, 100, .inl (fun _ => 0))), ((u9.1 15), .inr (3, [.ref (u9.1 13), .ref (u9.1 16), .int 0, .int 0])), ((u9.1 16), .inr (6, [.int 0, .int 0, .int 0, .int 0, .int 0, .ref (u9.1 17), .ref (u9.1 18), .ref (u9.1 19), .ref (u9.1 20), .ref (u9.1 21), .ref (u9.1 22)])), ((u9.1 17), .inl (G.1, 8, .inl (fun _ => 0))), ((u9.1 18), .inl (G.1, 8, .inl (fun _ => 0))), ((u9.1 19), .inl (G.1, 8, .inl (fun _ => 0))), ((u9.1 20), .inl (G.1, 4, .inl (fun _ => 0))), ((u9.1 21), .inl (G.1, 4, .inl (fun j => if j < 4 then (-1000000) else (fun _ => 0) j))), ((u9.1 22), .inl (G.1, 4, .inl (fun _ => 0))), ((u9.1 23), .inr (6, [.int 0, .int 0, .int 0, .int 0, .int 0, .ref (u9.1 24), .ref (u9.1 25), .ref (u9.1 26), .ref (u9.1 27), .ref (u9.1 28), .ref (u9.1 29)])), ((u9.1 24), .inl (G.1, 8, .inl (fun _ => 0))), ((u9.1 25), .inl (G.1, 8, .inl (fun _ => 0))), ((u9.1 26), .inl (G.1, 8, .inl (fun _ => 0))), ((u9.1 27), .inl (G.1, 4, .inl (fun _ => 0))), ((u9.1 28), .inl (G.1, 4, .inl (fun j => if j < 4 then (-1000000) else (fun _ => 0) j))), ((u9.1 29), .inl (G.1, 4, .inl (fun _ => 0))), ((u9.1 30), .inl (G.2.2.2, 2, .inr (.inr (.inr (.inr (va_up (va_up (fun _ => none) 0 (some ((u9.1 31)))) 1 (some ((u9.1 38))))))))), ((u9.1 31), .inr (6, [.int 0, .int 0, .int 0, .int 0, .int 0, .ref (u9.1 32), .ref (u9.1 33), .ref (u9.1 34), .ref (u9.1 35), .ref (u9.1 36), .ref (u9.1 37)])), ((u9.1 32), .inl (G.1, 8, .inl (fun _ => 0))), ((u9.1 33), .inl (G.1, 8, .inl (fun _ => 0))), ((u9.1 34), .inl (G.1, 8, .inl (fun _ => 0))), ((u9.1 35), .inl (G.1, 4, .inl (fun _ => 0))), ((u9.1 36), .inl (G.1, 4, .inl (fun j => if j < 4 then (-1000000) else (fun _ => 0) j))), ((u9.1 37), .inl (G.1, 4, .inl (fun _ => 0))), ((u9.1 38), .inr (6, [.int 0, .int 0, .int 0, .int 0, .int 0, .ref (u9.1 39), .ref (u9.1 40), .ref (u9.1 41), .ref (u9.1 42), .ref (u9.1 43), .ref (u9.1 44)])), ((u9.1 39), .inl (G.1, 8, .inl (fun _ => 0))), ((u9.1 40), .inl (G.1, 8, .inl (fun _ => 0))), ((u9.1 41), .inl (G.1, 8, .inl (fun _ => 0))), ((u9.1 42), .inl (G.1, 4, .inl (fun _ => 0))), ((u9.1 43), .inl (G.1, 4, .inl (fun j => if j < 4 then (-1000000) else (fun _ => 0) j))), ((u9.1 44), .inl (G.1, 4, .inl (fun _ => 0))), ((u9.1 45), .inr (0, [.ref (u9.1 46), .int 0, .int 0])), ((u9.1 46), .inl (G.2.2.1, 24, .inr (.inr (.inr (.inr (fun i => if i < 24 then some (u9.2.2.1 i) else none)))))), ((u9.2.2.1 0), .inl (G.1, 17, .inl (fun _ => 0))), ((u9.2.2.1 1), .inl (G.1, 17, .inl (fun _ => 0))), ((u9.2.2.1 2), .inl (G.1, 17, .inl (fun _ => 0))), ((u9.2.2.1 3), .inl (G.1, 17, .inl (fun _ => 0))), ((u9.2.2.1 4), .inl (G.1, 17, .inl (fun _ => 0))), ((u9.2.2.1 5), .inl (G.1, 17, .inl (fun _ => 0))), ((u9.2.2.1 6), .inl (G.1, 17, .inl (fun _ => 0))), ((u9.2.2.1 7), .inl (G.1, 17, .inl (fun _ => 0))), ((u9.2.2.1 8), .inl (G.1, 17, .inl (fun _ => 0))), ((u9.2.2.1 9), .inl (G.1, 17, .inl (fun _ => 0))), ((u9.2.2.1 10), .inl (G.1, 17, .inl (fun _ => 0))), ((u9.2.2.1 11), .inl (G.1, 17, .inl (fun _ => 0))), ((u9.2.2.1 12), .inl (G.1, 17, .inl (fun _ => 0))), ((u9.2.2.1 13), .inl (G.1, 17, .inl (fun _ => 0))), ((u9.2.2.1 14), .inl (G.1, 17, .inl (fun _ => 0))), ((u9.2.2.1 15), .inl (G.1, 17, .inl (fun _ => 0))), ((u9.2.2.1 16), .inl (G.1, 17, .inl (fun _ => 0))), ((u9.2.2.1 17), .inl (G.1, 17, .inl (fun _ => 0))), ((u9.2.2.1 18), .inl (G.1, 17, .inl (fun _ => 0))), ((u9.2.2.1 19), .inl (G.1, 17, .inl (fun _ => 0))), ((u9.2.2.1 20), .inl (G.1, 17, .inl (fun _ => 0))), ((u9.2.2.1 21), .inl (G.1, 17, .inl (fun _ => 0))), ((u9.2.2.1 22), .inl (G.1, 17, .inl (fun _ => 0))), ((u9.2.2.1 23), .inl (G.1, 17, .inl (fun _ => 0))), ((u9.1 71), .inr (2, [.ref (u9.1 72), .ref (u9.1 79), .int 0])), ((u9.1 72), .inr (6, [.int 0, .int 0, .int 0, .int 0, .int 0, .ref (u9.1 73), .ref (u9.1 74), .ref (u9.1 75), .ref (u9.1 76), .ref (u9.1 77), .ref (u9.1 78)])), ((u9.1 73), .inl (G.1, 8, .inl (fun _ => 0))), ((u9.1 74), .inl (G.1, 8, .inl (fun _ => 0))), ((u9.1 75), .inl (G.1, 8, .inl (fun _ => 0))), ((u9.1 76), .inl (G.1, 4, .inl (fun _ => 0))), ((u9.1 77), .inl (G.1, 4, .inl (fun j => if j < 4 then (-1000000) else (fun _ => 0) j))), ((u9.1 78), .inl (G.1, 4, .inl (fun _ => 0))), ((u9.1 79), .inl (G.1, 16, .inl (fun _ => 0))), ((u9.1 80), .inr (7, [.ref (u9.1 81), .ref (u9.1 88), .ref (u9.1 93), .ref (u9.1 94), .ref (u9.1 95), .ref (u9.1 81), .int 0, .int 0, .int 0])), ((u9.1 81), .inr (6, [.int 0, .int 0, .int 0, .int 0, .int 0, .ref (u9.1 82), .ref (u9.1 83), .ref (u9.1 84), .ref (u9.1 85), .ref (u9.1 86), .ref (u9.1 87)])), ((u9.1 82), .inl (G.1, 8, .inl (fun _ => 0))), ((u9.1 83), .inl (G.1, 8, .inl (fun _ => 0))), ((u9.1 84), .inl (G.1, 8, .inl (fun _ => 0))), ((u9.1 85), .inl (G.1, 4, .inl (fun _ => 0))), ((u9.1 86), .inl (G.1, 4, .inl (fun j => if j < 4 then (-1000000) else (fun _ => 0) j))), ((u9.1 87), .inl (G.1, 4, .inl (fun _ => 0))), ((u9.1 88), .inl (G.2.2.1, 4, .inr (.inr (.inr (.inr (fun i => if i < 4 then some (u9.2.2.2 i) else none)))))), ((u9.2.2.2 0), .inl (G.1, 4, .inl (fun _ => 0))), ((u9.2.2.2 1), .inl (G.1, 4, .inl (fun _ => 0))), ((u9.2.2.2 2), .inl (G.1, 4, .inl (fun _ => 0))), ((u9.2.2.2 3), .inl (G.1, 4, .inl (fun _ => 0))), ((u9.1 93), .inl (G.1, 4, .inl (fun _ => 0))), ((u9.1 94), .inl (G.1, 4, .inl (fun _ => 0))), ((u9.1 95), .inl (G.1, 4, .inl (fun _ => 0))), ((u9.1 96), .inr (1, [.ref (u9.1 97), .int 0, .int 0, .int 0, .int 0, .int 0])), ((u9.1 97), .inl (G.1, 16, .inl (fun _ => 0)))] := by
  have h : sw_ws (iA q9 q10 u9 u10 t0 t1 t2 b) G (iM L xs) = [(q10, sw_ec (iA q9 q10 u9 u10 t0 t1 t2 b) G 0 (iM L xs 0)), ((u10.1 1), sw_ec (iA q9 q10 u9 u10 t0 t1 t2 b) G 1 (iM L xs 1)), ((u10.1 2), sw_ec (iA q9 q10 u9 u10 t0 t1 t2 b) G 2 (iM L xs 2)), ((u10.1 3), sw_ec (iA q9 q10 u9 u10 t0 t1 t2 b) G 3 (iM L xs 3)), ((u10.1 4), sw_ec (iA q9 q10 u9 u10 t0 t1 t2 b) G 4 (iM L xs 4)), ((u10.1 5), sw_ec (iA q9 q10 u9 u10 t0 t1 t2 b) G 5 (iM L xs 5)), ((u10.1 6), sw_ec (iA q9 q10 u9 u10 t0 t1 t2 b) G 6 (iM L xs 6)), ((u10.1 7), sw_ec (iA q9 q10 u9 u10 t0 t1 t2 b) G 7 (iM L xs 7)), ((u10.1 8), sw_ec (iA q9 q10 u9 u10 t0 t1 t2 b) G 8 (iM L xs 8)), ((u10.1 9), sw_ec (iA q9 q10 u9 u10 t0 t1 t2 b) G 9 (iM L xs 9)), ((u10.1 10), sw_ec (iA q9 q10 u9 u10 t0 t1 t2 b) G 10 (iM L xs 10)), (q9, sw_ec (iA q9 q10 u9 u10 t0 t1 t2 b) G 11 (iM L xs 11)), ((u9.1 1), sw_ec (iA q9 q10 u9 u10 t0 t1 t2 b) G 12 (iM L xs 12)), ((u9.1 2), sw_ec (iA q9 q10 u9 u10 t0 t1 t2 b) G 13 (iM L xs 13)), ((u9.2.1 0), sw_ec (iA q9 q10 u9 u10 t0 t1 t2 b) G 14 (iM L xs 14)), ((u9.2.1 1), sw_ec (iA q9 q10 u9 u10 t0 t1 t2 b) G 15 (iM L xs 15)), ((u9.2.1 2), sw_ec (iA q9 q10 u9 u10 t0 t1 t2 b) G 16 (iM L xs 16)), ((u9.2.1 3), sw_ec (iA q9 q10 u9 u10 t0 t1 t2 b) G 17 (iM L xs 17)), ((u9.2.1 4), sw_ec (iA q9 q10 u9 u10 t0 t1 t2 b) G 18 (iM L xs 18)), ((u9.2.1 5), sw_ec (iA q9 q10 u9 u10 t0 t1 t2 b) G 19 (iM L xs 19)), ((u9.2.1 6), sw_ec (iA q9 q10 u9 u10 t0 t1 t2 b) G 20 (iM L xs 20)), ((u9.2.1 7), sw_ec (iA q9 q10 u9 u10 t0 t1 t2 b) G 21 (iM L xs 21)), ((u9.1 11), sw_ec (iA q9 q10 u9 u10 t0 t1 t2 b) G 22 (iM L xs 22)), ((u9.1 12), sw_ec (iA q9 q10 u9 u10 t0 t1 t2 b) G 23 (iM L xs 23)), ((u9.1 13), sw_ec (iA q9 q10 u9 u10 t0 t1 t2 b) G 24 (iM L xs 24)), ((u9.1 14), sw_ec (iA q9 q10 u9 u10 t0 t1 t2 b) G 25 (iM L xs 25)), ((u9.1 15), sw_ec (iA q9 q10 u9 u10 t0 t1 t2 b) G 26 (iM L xs 26)), ((u9.1 16), sw_ec (iA q9 q10 u9 u10 t0 t1 t2 b) G 27 (iM L xs 27)), ((u9.1 17), sw_ec (iA q9 q10 u9 u10 t0 t1 t2 b) G 28 (iM L xs 28)), ((u9.1 18), sw_ec (iA q9 q10 u9 u10 t0 t1 t2 b) G 29 (iM L xs 29)), ((u9.1 19), sw_ec (iA q9 q10 u9 u10 t0 t1 t2 b) G 30 (iM L xs 30)), ((u9.1 20), sw_ec (iA q9 q10 u9 u10 t0 t1 t2 b) G 31 (iM L xs 31)), ((u9.1 21), sw_ec (iA q9 q10 u9 u10 t0 t1 t2 b) G 32 (iM L xs 32)), ((u9.1 22), sw_ec (iA q9 q10 u9 u10 t0 t1 t2 b) G 33 (iM L xs 33)), ((u9.1 23), sw_ec (iA q9 q10 u9 u10 t0 t1 t2 b) G 34 (iM L xs 34)), ((u9.1 24), sw_ec (iA q9 q10 u9 u10 t0 t1 t2 b) G 35 (iM L xs 35)), ((u9.1 25), sw_ec (iA q9 q10 u9 u10 t0 t1 t2 b) G 36 (iM L xs 36)), ((u9.1 26), sw_ec (iA q9 q10 u9 u10 t0 t1 t2 b) G 37 (iM L xs 37)), ((u9.1 27), sw_ec (iA q9 q10 u9 u10 t0 t1 t2 b) G 38 (iM L xs 38)), ((u9.1 28), sw_ec (iA q9 q10 u9 u10 t0 t1 t2 b) G 39 (iM L xs 39)), ((u9.1 29), sw_ec (iA q9 q10 u9 u10 t0 t1 t2 b) G 40 (iM L xs 40)), ((u9.1 30), sw_ec (iA q9 q10 u9 u10 t0 t1 t2 b) G 41 (iM L xs 41)), ((u9.1 31), sw_ec (iA q9 q10 u9 u10 t0 t1 t2 b) G 42 (iM L xs 42)), ((u9.1 32), sw_ec (iA q9 q10 u9 u10 t0 t1 t2 b) G 43 (iM L xs 43)), ((u9.1 33), sw_ec (iA q9 q10 u9 u10 t0 t1 t2 b) G 44 (iM L xs 44)), ((u9.1 34), sw_ec (iA q9 q10 u9 u10 t0 t1 t2 b) G 45 (iM L xs 45)), ((u9.1 35), sw_ec (iA q9 q10 u9 u10 t0 t1 t2 b) G 46 (iM L xs 46)), ((u9.1 36), sw_ec (iA q9 q10 u9 u10 t0 t1 t2 b) G 47 (iM L xs 47)), ((u9.1 37), sw_ec (iA q9 q10 u9 u10 t0 t1 t2 b) G 48 (iM L xs 48)), ((u9.1 38), sw_ec (iA q9 q10 u9 u10 t0 t1 t2 b) G 49 (iM L xs 49)), ((u9.1 39), sw_ec (iA q9 q10 u9 u10 t0 t1 t2 b) G 50 (iM L xs 50)), ((u9.1 40), sw_ec (iA q9 q10 u9 u10 t0 t1 t2 b) G 51 (iM L xs 51)), ((u9.1 41), sw_ec (iA q9 q10 u9 u10 t0 t1 t2 b) G 52 (iM L xs 52)), ((u9.1 42), sw_ec (iA q9 q10 u9 u10 t0 t1 t2 b) G 53 (iM L xs 53)), ((u9.1 43), sw_ec (iA q9 q10 u9 u10 t0 t1 t2 b) G 54 (iM L xs 54)), ((u9.1 44), sw_ec (iA q9 q10 u9 u10 t0 t1 t2 b) G 55 (iM L xs 55)), ((u9.1 45), sw_ec (iA q9 q10 u9 u10 t0 t1 t2 b) G 56 (iM L xs 56)), ((u9.1 46), sw_ec (iA q9 q10 u9 u10 t0 t1 t2 b) G 57 (iM L xs 57)), ((u9.2.2.1 0), sw_ec (iA q9 q10 u9 u10 t0 t1 t2 b) G 58 (iM L xs 58)), ((u9.2.2.1 1), sw_ec (iA q9 q10 u9 u10 t0 t1 t2 b) G 59 (iM L xs 59)), ((u9.2.2.1 2), sw_ec (iA q9 q10 u9 u10 t0 t1 t2 b) G 60 (iM L xs 60)), ((u9.2.2.1 3), sw_ec (iA q9 q10 u9 u10 t0 t1 t2 b) G 61 (iM L xs 61)), ((u9.2.2.1 4), sw_ec (iA q9 q10 u9 u10 t0 t1 t2 b) G 62 (iM L xs 62)), ((u9.2.2.1 5), sw_ec (iA q9 q10 u9 u10 t0 t1 t2 b) G 63 (iM L xs 63)), ((u9.2.2.1 6), sw_ec (iA q9 q10 u9 u10 t0 t1 t2 b) G 64 (iM L xs 64)), ((u9.2.2.1 7), sw_ec (iA q9 q10 u9 u10 t0 t1 t2 b) G 65 (iM L xs 65)), ((u9.2.2.1 8), sw_ec (iA q9 q10 u9 u10 t0 t1 t2 b) G 66 (iM L xs 66)), ((u9.2.2.1 9), sw_ec (iA q9 q10 u9 u10 t0 t1 t2 b) G 67 (iM L xs 67)), ((u9.2.2.1 10), sw_ec (iA q9 q10 u9 u10 t0 t1 t2 b) G 68 (iM L xs 68)), ((u9.2.2.1 11), sw_ec (iA q9 q10 u9 u10 t0 t1 t2 b) G 69 (iM L xs 69)), ((u9.2.2.1 12), sw_ec (iA q9 q10 u9 u10 t0 t1 t2 b) G 70 (iM L xs 70)), ((u9.2.2.1 13), sw_ec (iA q9 q10 u9 u10 t0 t1 t2 b) G 71 (iM L xs 71)), ((u9.2.2.1 14), sw_ec (iA q9 q10 u9 u10 t0 t1 t2 b) G 72 (iM L xs 72)), ((u9.2.2.1 15), sw_ec (iA q9 q10 u9 u10 t0 t1 t2 b) G 73 (iM L xs 73)), ((u9.2.2.1 16), sw_ec (iA q9 q10 u9 u10 t0 t1 t2 b) G 74 (iM L xs 74)), ((u9.2.2.1 17), sw_ec (iA q9 q10 u9 u10 t0 t1 t2 b) G 75 (iM L xs 75)), ((u9.2.2.1 18), sw_ec (iA q9 q10 u9 u10 t0 t1 t2 b) G 76 (iM L xs 76)), ((u9.2.2.1 19), sw_ec (iA q9 q10 u9 u10 t0 t1 t2 b) G 77 (iM L xs 77)), ((u9.2.2.1 20), sw_ec (iA q9 q10 u9 u10 t0 t1 t2 b) G 78 (iM L xs 78)), ((u9.2.2.1 21), sw_ec (iA q9 q10 u9 u10 t0 t1 t2 b) G 79 (iM L xs 79)), ((u9.2.2.1 22), sw_ec (iA q9 q10 u9 u10 t0 t1 t2 b) G 80 (iM L xs 80)), ((u9.2.2.1 23), sw_ec (iA q9 q10 u9 u10 t0 t1 t2 b) G 81 (iM L xs 81)), ((u9.1 71), sw_ec (iA q9 q10 u9 u10 t0 t1 t2 b) G 82 (iM L xs 82)), ((u9.1 72), sw_ec (iA q9 q10 u9 u10 t0 t1 t2 b) G 83 (iM L xs 83)), ((u9.1 73), sw_ec (iA q9 q10 u9 u10 t0 t1 t2 b) G 84 (iM L xs 84)), ((u9.1 74), sw_ec (iA q9 q10 u9 u10 t0 t1 t2 b) G 85 (iM L xs 85)), ((u9.1 75), sw_ec (iA q9 q10 u9 u10 t0 t1 t2 b) G 86 (iM L xs 86)), ((u9.1 76), sw_ec (iA q9 q10 u9 u10 t0 t1 t2 b) G 87 (iM L xs 87)), ((u9.1 77), sw_ec (iA q9 q10 u9 u10 t0 t1 t2 b) G 88 (iM L xs 88)), ((u9.1 78), sw_ec (iA q9 q10 u9 u10 t0 t1 t2 b) G 89 (iM L xs 89)), ((u9.1 79), sw_ec (iA q9 q10 u9 u10 t0 t1 t2 b) G 90 (iM L xs 90)), ((u9.1 80), sw_ec (iA q9 q10 u9 u10 t0 t1 t2 b) G 91 (iM L xs 91)), ((u9.1 81), sw_ec (iA q9 q10 u9 u10 t0 t1 t2 b) G 92 (iM L xs 92)), ((u9.1 82), sw_ec (iA q9 q10 u9 u10 t0 t1 t2 b) G 93 (iM L xs 93)), ((u9.1 83), sw_ec (iA q9 q10 u9 u10 t0 t1 t2 b) G 94 (iM L xs 94)), ((u9.1 84), sw_ec (iA q9 q10 u9 u10 t0 t1 t2 b) G 95 (iM L xs 95)), ((u9.1 85), sw_ec (iA q9 q10 u9 u10 t0 t1 t2 b) G 96 (iM L xs 96)), ((u9.1 86), sw_ec (iA q9 q10 u9 u10 t0 t1 t2 b) G 97 (iM L xs 97)), ((u9.1 87), sw_ec (iA q9 q10 u9 u10 t0 t1 t2 b) G 98 (iM L xs 98)), ((u9.1 88), sw_ec (iA q9 q10 u9 u10 t0 t1 t2 b) G 99 (iM L xs 99)), ((u9.2.2.2 0), sw_ec (iA q9 q10 u9 u10 t0 t1 t2 b) G 100 (iM L xs 100)), ((u9.2.2.2 1), sw_ec (iA q9 q10 u9 u10 t0 t1 t2 b) G 101 (iM L xs 101)), ((u9.2.2.2 2), sw_ec (iA q9 q10 u9 u10 t0 t1 t2 b) G 102 (iM L xs 102)), ((u9.2.2.2 3), sw_ec (iA q9 q10 u9 u10 t0 t1 t2 b) G 103 (iM L xs 103)), ((u9.1 93), sw_ec (iA q9 q10 u9 u10 t0 t1 t2 b) G 104 (iM L xs 104)), ((u9.1 94), sw_ec (iA q9 q10 u9 u10 t0 t1 t2 b) G 105 (iM L xs 105)), ((u9.1 95), sw_ec (iA q9 q10 u9 u10 t0 t1 t2 b) G 106 (iM L xs 106)), ((u9.1 96), sw_ec (iA q9 q10 u9 u10 t0 t1 t2 b) G 107 (iM L xs 107)), ((u9.1 97), sw_ec (iA q9 q10 u9 u10 t0 t1 t2 b) G 108 (iM L xs 108))] := rfl
  rw [h]
  rw [st_e0, st_e1, st_e2, st_e3, st_e4, st_e5, st_e6, st_e7, st_e8, st_e9, st_e10, st_e11, st_e12, st_e13, st_e14, st_e15, st_e16, st_e17, st_e18, st_e19, st_e20, st_e21, st_e22, st_e23, st_e24, st_e25, st_e26, st_e27, st_e28, st_e29, st_e30, st_e31, st_e32, st_e33, st_e34, st_e35, st_e36, st_e37, st_e38, st_e39, st_e40, st_e41, st_e42, st_e43, st_e44, st_e45, st_e46, st_e47, st_e48, st_e49, st_e50, st_e51, st_e52, st_e53, st_e54, st_e55, st_e56, st_e57, st_e58, st_e59, st_e60, st_e61, st_e62, st_e63, st_e64, st_e65, st_e66, st_e67, st_e68, st_e69, st_e70, st_e71, st_e72, st_e73, st_e74, st_e75, st_e76, st_e77, st_e78, st_e79, st_e80, st_e81, st_e82, st_e83, st_e84, st_e85, st_e86, st_e87, st_e88, st_e89, st_e90, st_e91, st_e92, st_e93, st_e94, st_e95, st_e96, st_e97, st_e98, st_e99, st_e100, st_e101, st_e102, st_e103, st_e104, st_e105, st_e106, st_e107, st_e108]
end STA
theorem st_wf : OKT (fun _ => 0) := ⟨⟨Nat.zero_le _, Nat.zero_le _, Nat.zero_le _, Nat.zero_le _, Nat.zero_le _, fun r h => absurd h (Nat.not_lt_zero r), fun r h => absurd h (Nat.not_lt_zero r), fun r h => absurd h (Nat.not_lt_zero r)⟩, fun r h => absurd h (Nat.not_lt_zero r), Nat.zero_le _, fun h => absurd h (Nat.lt_irrefl 0), fun _ => rfl⟩
theorem st_v {L : Nat} {xs : Nat → Int32} {v : Nat} (h : v = 34 ∨ v = 42 ∨ v = 49) : IsV (iM L xs) v (fun _ => 0) := by
  rcases h with rfl | rfl | rfl <;> exact ⟨by decide +kernel, ⟨rfl, rfl, rfl, rfl, rfl⟩, fun r h => absurd h (Nat.not_lt_zero r), fun r h => absurd h (Nat.not_lt_zero r)⟩
theorem st_r1 {L : Nat} {xs : Nat → Int32} : CRw (fun _ => 0, fun _ => 0, fun _ _ => 0) (iM L xs) := by
  intro r hr
  rcases (show r = 0 ∨ r = 1 ∨ r = 2 ∨ r = 3 ∨ r = 4 ∨ r = 5 ∨ r = 6 ∨ r = 7 by omega) with rfl | rfl | rfl | rfl | rfl | rfl | rfl | rfl <;> exact ⟨rfl, rfl, fun i _ => rfl⟩
theorem st_r2 {L : Nat} {xs : Nat → Int32} : MRw (fun _ => 0, fun _ => 0, fun _ _ => 0) (iM L xs) := by
  intro r hr
  rcases (show r = 0 ∨ r = 1 ∨ r = 2 ∨ r = 3 ∨ r = 4 ∨ r = 5 ∨ r = 6 ∨ r = 7 by omega) with rfl | rfl | rfl | rfl | rfl | rfl | rfl | rfl <;> exact ⟨rfl, rfl, fun i _ => rfl⟩
theorem st_Wd {L : Nat} {xs : Nat → Int32} : Wd (iM L xs) := by
  refine ⟨fun _ => 0, fun _ _ => 0, (fun _ _ => 0, 0), (fun _ => 0, fun _ => 0, fun _ _ => 0), (fun _ => 0, 0), 0, 0, (fun _ => 0, 0), ?_, ?_, ?_⟩
  · exact ⟨st_wf, ⟨⟨st_wf, st_wf⟩, fun h => by rcases h with h | h <;> exact absurd h (Nat.lt_irrefl 0)⟩, ⟨Nat.zero_le _, fun i h => absurd h (Nat.not_lt_zero i)⟩, fun r _ => ⟨Nat.zero_le _, Nat.zero_le _⟩, ⟨Nat.zero_le _, fun i h => absurd h (Nat.not_lt_zero i)⟩, Nat.zero_le _⟩
  · exact ⟨st_v (by omega), ⟨st_v (by omega), st_v (by omega)⟩, ⟨rfl, 0, by decide, rfl, fun i h => absurd h (Nat.not_lt_zero i)⟩, st_r1, ⟨rfl, fun i h => absurd h (Nat.not_lt_zero i)⟩, rfl, rfl, ⟨rfl, fun i h => absurd h (Nat.not_lt_zero i)⟩, ⟨rfl, rfl, rfl, rfl, rfl, rfl⟩, ⟨rfl, rfl, rfl, rfl, rfl, rfl⟩, ⟨rfl, rfl, rfl, rfl, rfl, rfl⟩⟩
  · exact ⟨⟨fun i _ => rfl, rfl⟩, ⟨fun i _ => rfl, fun i _ => rfl, rfl, rfl⟩, ⟨rfl, fun i h => absurd h (Nat.not_lt_zero i)⟩, st_r2, ⟨rfl, fun i h => absurd h (Nat.not_lt_zero i)⟩, rfl, rfl, ⟨rfl, fun i h => absurd h (Nat.not_lt_zero i)⟩⟩
