/-! the constructors, walked (printed by program gen91.py) -/
set_option maxHeartbeats 16000000 in
set_option maxRecDepth 100000 in
theorem ic_X7 (l : Launch) (D : va_G) (G : sw_G) (h0 : Nat) (sz : Nat) : Met l yX7_init wsX7_init ({ frames := 1, cells := 6, slots := 36, locals := 23 }) (va_Pc [.ref h0] (fun U => U.heap.size = sz ∧ va_P D vwCl [(h0, .inr (6, [.int 0, .int 0, .int 0, .int 0, .int 0, .null, .null, .null, .null, .null, .null]))] U.heap ∧ va_K D vwCl (sw_tys G) U ∧ va_D (fun _ => True) [(h0, .inr (6, [.int 0, .int 0, .int 0, .int 0, .int 0, .null, .null, .null, .null, .null, .null]))])) (va_Qv (fun _ : (Nat → Nat) × (Nat → Nat) × (Nat → Nat) × (Nat → Nat) => True) (fun u t => va_P D vwCl ([(h0, .inr (6, [.int 0, .int 0, .int 0, .int 0, .int 0, .ref (u.1 1), .ref (u.1 2), .ref (u.1 3), .ref (u.1 4), .ref (u.1 5), .ref (u.1 6)])), ((u.1 1), .inl (G.1, 8, .inl (fun _ => 0))), ((u.1 2), .inl (G.1, 8, .inl (fun _ => 0))), ((u.1 3), .inl (G.1, 8, .inl (fun _ => 0))), ((u.1 4), .inl (G.1, 4, .inl (fun _ => 0))), ((u.1 5), .inl (G.1, 4, .inl (fun j => if j < 4 then (-1000000) else (fun _ => 0) j))), ((u.1 6), .inl (G.1, 4, .inl (fun _ => 0)))]) t.heap ∧ va_D (va_A [(h0, .inr (6, [.int 0, .int 0, .int 0, .int 0, .int 0, .null, .null, .null, .null, .null, .null]))] sz) ([(h0, .inr (6, [.int 0, .int 0, .int 0, .int 0, .int 0, .ref (u.1 1), .ref (u.1 2), .ref (u.1 3), .ref (u.1 4), .ref (u.1 5), .ref (u.1 6)])), ((u.1 1), .inl (G.1, 8, .inl (fun _ => 0))), ((u.1 2), .inl (G.1, 8, .inl (fun _ => 0))), ((u.1 3), .inl (G.1, 8, .inl (fun _ => 0))), ((u.1 4), .inl (G.1, 4, .inl (fun _ => 0))), ((u.1 5), .inl (G.1, 4, .inl (fun j => if j < 4 then (-1000000) else (fun _ => 0) j))), ((u.1 6), .inl (G.1, 4, .inl (fun _ => 0)))])) (va_A [(h0, .inr (6, [.int 0, .int 0, .int 0, .int 0, .int 0, .null, .null, .null, .null, .null, .null]))] sz)) 6 36 (va_A [(h0, .inr (6, [.int 0, .int 0, .int 0, .int 0, .int 0, .null, .null, .null, .null, .null, .null]))] sz) := by
  refine Met.ofW (cc := cX7_init) (maxL := 1) (ret := none) (by decide) rfl ?_
  intro p e s m args below meth c s₁ B hml hv
  obtain ⟨rfl, hsz, hP, hK, hD0⟩ := hv
  have hx := B.exec
  have hb := B.bytes
  have hr := B.returns
  have hts := atoms_spec (ws := wsX7_init) B.pre
  have hown : s.vm.findClass RX7 = some m.cls := findClass_of_methodNamed B.named
  have hlocks := B.notSynchronized
  have hin : meth.name = "<init>" := (name_of_methodNamed B.named B.method).1
  subst hsz
  have hD := hD0.self (sz := s.heap.size)
  generalize hAe : va_A [(h0, .inr (6, [.int 0, .int 0, .int 0, .int 0, .int 0, .null, .null, .null, .null, .null, .null]))] s.heap.size = A at hD ⊢
  have hA : ∀ q : Nat, s.heap.size ≤ q → A q := fun q h => by rw [← hAe]; exact Or.inr h
  have hS : va_S A s.heap s.heap [] := va_S.rf
  have hP : va_P D vwCl [(h0, .inr (6, [.int 0, .int 0, .int 0, .int 0, .int 0, .null, .null, .null, .null, .null, .null]))] s.heap := hP
  have hl := lv_entry ([.ref h0]) (n := 1) (Nat.le_of_ble_eq_true rfl)
  rw [lg_entry_eq]
  generalize (lg_sl ([.ref h0]) ++ List.replicate (1 - (lg_sl ([.ref h0])).length) Slot.unset).toArray = ls at hl ⊢
  have hl : lv_has ls 1 [(0, .ref h0)] := hl
  refine lv_aload_n hx hb dX7_init_0 rfl (lv_at hl 0 rfl) ?_
  refine W.objInit hx hb hown (hts (.methodLink RX7 3 objectInit) (by decide +kernel)) (hts (.instanceMethod objectInit) (by decide +kernel)) (hts (.code objectInit ⟨#[0xb1]⟩ 1 none) (by decide +kernel)) rfl (by rw [hml]; exact hl.1) rfl dX7_init_1 (Nat.le_of_ble_eq_true rfl) (Nat.le_of_ble_eq_true rfl) ?_
  refine W.eq (g2 := F0 m 4 ls []) rfl ?_
  refine lv_aload_n hx hb dX7_init_4 rfl (lv_at hl 0 rfl) ?_
  refine lv_bipush (v := (nI 8)) hx hb dX7_init_5 (by decide +kernel) ?_
  refine i_newI (G := G) hx hb (hts (.arrayClass .int) (by decide +kernel)) hK hP hD hS hA 8 (by decide +kernel) (by decide +kernel) (Nat.le_of_ble_eq_true rfl) (Nat.le_of_ble_eq_true rfl) (Nat.le_of_ble_eq_true rfl) dX7_init_7 (fun q0 H hP hD hS => ?_)
  have hP : va_P D vwCl [(h0, .inr (6, [.int 0, .int 0, .int 0, .int 0, .int 0, .null, .null, .null, .null, .null, .null])), (q0, .inl (G.1, 8, .inl (fun _ => 0)))] H := hP
  have hD : va_D A [(h0, .inr (6, [.int 0, .int 0, .int 0, .int 0, .int 0, .null, .null, .null, .null, .null, .null])), (q0, .inl (G.1, 8, .inl (fun _ => 0)))] := hD
  refine va_putF (D := D) (ci := 6) (v := .ref q0) (ty := .array .int) (C := RX7) (T := TX7) (N := 11) hx hb hts (by decide +kernel) tyX7 tyX7_ok nmX7 hown hK hP hD hS 0 rfl rfl 5 (by decide) (hts (.fieldLink RX7 9 "StoneWed$Valley" "rock" "[I") (by decide +kernel)) (fun _ h9 => h9) rfl hin rfl (by decide +kernel) rfl rfl (Nat.le_of_ble_eq_true rfl) dX7_init_9 (fun H locs hP hD hS => ?_)
  have hP : va_P D vwCl [(h0, .inr (6, [.int 0, .int 0, .int 0, .int 0, .int 0, .ref q0, .null, .null, .null, .null, .null])), (q0, .inl (G.1, 8, .inl (fun _ => 0)))] H := hP
  have hD : va_D A [(h0, .inr (6, [.int 0, .int 0, .int 0, .int 0, .int 0, .ref q0, .null, .null, .null, .null, .null])), (q0, .inl (G.1, 8, .inl (fun _ => 0)))] := hD
  refine lv_aload_n hx hb dX7_init_12 rfl (lv_at hl 0 rfl) ?_
  refine lv_bipush (v := (nI 8)) hx hb dX7_init_13 (by decide +kernel) ?_
  refine i_newI (G := G) hx hb (hts (.arrayClass .int) (by decide +kernel)) hK hP hD hS hA 8 (by decide +kernel) (by decide +kernel) (Nat.le_of_ble_eq_true rfl) (Nat.le_of_ble_eq_true rfl) (Nat.le_of_ble_eq_true rfl) dX7_init_15 (fun q1 H hP hD hS => ?_)
  have hP : va_P D vwCl [(h0, .inr (6, [.int 0, .int 0, .int 0, .int 0, .int 0, .ref q0, .null, .null, .null, .null, .null])), (q0, .inl (G.1, 8, .inl (fun _ => 0))), (q1, .inl (G.1, 8, .inl (fun _ => 0)))] H := hP
  have hD : va_D A [(h0, .inr (6, [.int 0, .int 0, .int 0, .int 0, .int 0, .ref q0, .null, .null, .null, .null, .null])), (q0, .inl (G.1, 8, .inl (fun _ => 0))), (q1, .inl (G.1, 8, .inl (fun _ => 0)))] := hD
  refine va_putF (D := D) (ci := 6) (v := .ref q1) (ty := .array .int) (C := RX7) (T := TX7) (N := 11) hx hb hts (by decide +kernel) tyX7 tyX7_ok nmX7 hown hK hP hD hS 0 rfl rfl 6 (by decide) (hts (.fieldLink RX7 15 "StoneWed$Valley" "furrow" "[I") (by decide +kernel)) (fun _ h9 => h9) rfl hin rfl (by decide +kernel) rfl rfl (Nat.le_of_ble_eq_true rfl) dX7_init_17 (fun H locs hP hD hS => ?_)
  have hP : va_P D vwCl [(h0, .inr (6, [.int 0, .int 0, .int 0, .int 0, .int 0, .ref q0, .ref q1, .null, .null, .null, .null])), (q0, .inl (G.1, 8, .inl (fun _ => 0))), (q1, .inl (G.1, 8, .inl (fun _ => 0)))] H := hP
  have hD : va_D A [(h0, .inr (6, [.int 0, .int 0, .int 0, .int 0, .int 0, .ref q0, .ref q1, .null, .null, .null, .null])), (q0, .inl (G.1, 8, .inl (fun _ => 0))), (q1, .inl (G.1, 8, .inl (fun _ => 0)))] := hD
  refine lv_aload_n hx hb dX7_init_20 rfl (lv_at hl 0 rfl) ?_
  refine lv_bipush (v := (nI 8)) hx hb dX7_init_21 (by decide +kernel) ?_
  refine i_newI (G := G) hx hb (hts (.arrayClass .int) (by decide +kernel)) hK hP hD hS hA 8 (by decide +kernel) (by decide +kernel) (Nat.le_of_ble_eq_true rfl) (Nat.le_of_ble_eq_true rfl) (Nat.le_of_ble_eq_true rfl) dX7_init_23 (fun q2 H hP hD hS => ?_)
  have hP : va_P D vwCl [(h0, .inr (6, [.int 0, .int 0, .int 0, .int 0, .int 0, .ref q0, .ref q1, .null, .null, .null, .null])), (q0, .inl (G.1, 8, .inl (fun _ => 0))), (q1, .inl (G.1, 8, .inl (fun _ => 0))), (q2, .inl (G.1, 8, .inl (fun _ => 0)))] H := hP
  have hD : va_D A [(h0, .inr (6, [.int 0, .int 0, .int 0, .int 0, .int 0, .ref q0, .ref q1, .null, .null, .null, .null])), (q0, .inl (G.1, 8, .inl (fun _ => 0))), (q1, .inl (G.1, 8, .inl (fun _ => 0))), (q2, .inl (G.1, 8, .inl (fun _ => 0)))] := hD
  refine va_putF (D := D) (ci := 6) (v := .ref q2) (ty := .array .int) (C := RX7) (T := TX7) (N := 11) hx hb hts (by decide +kernel) tyX7 tyX7_ok nmX7 hown hK hP hD hS 0 rfl rfl 7 (by decide) (hts (.fieldLink RX7 18 "StoneWed$Valley" "temper" "[I") (by decide +kernel)) (fun _ h9 => h9) rfl hin rfl (by decide +kernel) rfl rfl (Nat.le_of_ble_eq_true rfl) dX7_init_25 (fun H locs hP hD hS => ?_)
  have hP : va_P D vwCl [(h0, .inr (6, [.int 0, .int 0, .int 0, .int 0, .int 0, .ref q0, .ref q1, .ref q2, .null, .null, .null])), (q0, .inl (G.1, 8, .inl (fun _ => 0))), (q1, .inl (G.1, 8, .inl (fun _ => 0))), (q2, .inl (G.1, 8, .inl (fun _ => 0)))] H := hP
  have hD : va_D A [(h0, .inr (6, [.int 0, .int 0, .int 0, .int 0, .int 0, .ref q0, .ref q1, .ref q2, .null, .null, .null])), (q0, .inl (G.1, 8, .inl (fun _ => 0))), (q1, .inl (G.1, 8, .inl (fun _ => 0))), (q2, .inl (G.1, 8, .inl (fun _ => 0)))] := hD
  refine lv_aload_n hx hb dX7_init_28 rfl (lv_at hl 0 rfl) ?_
  refine lv_iconst (v := (nI 4)) hx hb dX7_init_29 (by decide +kernel) ?_
  refine i_newI (G := G) hx hb (hts (.arrayClass .int) (by decide +kernel)) hK hP hD hS hA 4 (by decide +kernel) (by decide +kernel) (Nat.le_of_ble_eq_true rfl) (Nat.le_of_ble_eq_true rfl) (Nat.le_of_ble_eq_true rfl) dX7_init_30 (fun q3 H hP hD hS => ?_)
  have hP : va_P D vwCl [(h0, .inr (6, [.int 0, .int 0, .int 0, .int 0, .int 0, .ref q0, .ref q1, .ref q2, .null, .null, .null])), (q0, .inl (G.1, 8, .inl (fun _ => 0))), (q1, .inl (G.1, 8, .inl (fun _ => 0))), (q2, .inl (G.1, 8, .inl (fun _ => 0))), (q3, .inl (G.1, 4, .inl (fun _ => 0)))] H := hP
  have hD : va_D A [(h0, .inr (6, [.int 0, .int 0, .int 0, .int 0, .int 0, .ref q0, .ref q1, .ref q2, .null, .null, .null])), (q0, .inl (G.1, 8, .inl (fun _ => 0))), (q1, .inl (G.1, 8, .inl (fun _ => 0))), (q2, .inl (G.1, 8, .inl (fun _ => 0))), (q3, .inl (G.1, 4, .inl (fun _ => 0)))] := hD
  refine va_putF (D := D) (ci := 6) (v := .ref q3) (ty := .array .int) (C := RX7) (T := TX7) (N := 11) hx hb hts (by decide +kernel) tyX7 tyX7_ok nmX7 hown hK hP hD hS 0 rfl rfl 8 (by decide) (hts (.fieldLink RX7 21 "StoneWed$Valley" "kind" "[I") (by decide +kernel)) (fun _ h9 => h9) rfl hin rfl (by decide +kernel) rfl rfl (Nat.le_of_ble_eq_true rfl) dX7_init_32 (fun H locs hP hD hS => ?_)
  have hP : va_P D vwCl [(h0, .inr (6, [.int 0, .int 0, .int 0, .int 0, .int 0, .ref q0, .ref q1, .ref q2, .ref q3, .null, .null])), (q0, .inl (G.1, 8, .inl (fun _ => 0))), (q1, .inl (G.1, 8, .inl (fun _ => 0))), (q2, .inl (G.1, 8, .inl (fun _ => 0))), (q3, .inl (G.1, 4, .inl (fun _ => 0)))] H := hP
  have hD : va_D A [(h0, .inr (6, [.int 0, .int 0, .int 0, .int 0, .int 0, .ref q0, .ref q1, .ref q2, .ref q3, .null, .null])), (q0, .inl (G.1, 8, .inl (fun _ => 0))), (q1, .inl (G.1, 8, .inl (fun _ => 0))), (q2, .inl (G.1, 8, .inl (fun _ => 0))), (q3, .inl (G.1, 4, .inl (fun _ => 0)))] := hD
  refine lv_aload_n hx hb dX7_init_35 rfl (lv_at hl 0 rfl) ?_
  refine lv_iconst (v := (nI 4)) hx hb dX7_init_36 (by decide +kernel) ?_
  refine i_newI (G := G) hx hb (hts (.arrayClass .int) (by decide +kernel)) hK hP hD hS hA 4 (by decide +kernel) (by decide +kernel) (Nat.le_of_ble_eq_true rfl) (Nat.le_of_ble_eq_true rfl) (Nat.le_of_ble_eq_true rfl) dX7_init_37 (fun q4 H hP hD hS => ?_)
  have hP : va_P D vwCl [(h0, .inr (6, [.int 0, .int 0, .int 0, .int 0, .int 0, .ref q0, .ref q1, .ref q2, .ref q3, .null, .null])), (q0, .inl (G.1, 8, .inl (fun _ => 0))), (q1, .inl (G.1, 8, .inl (fun _ => 0))), (q2, .inl (G.1, 8, .inl (fun _ => 0))), (q3, .inl (G.1, 4, .inl (fun _ => 0))), (q4, .inl (G.1, 4, .inl (fun _ => 0)))] H := hP
  have hD : va_D A [(h0, .inr (6, [.int 0, .int 0, .int 0, .int 0, .int 0, .ref q0, .ref q1, .ref q2, .ref q3, .null, .null])), (q0, .inl (G.1, 8, .inl (fun _ => 0))), (q1, .inl (G.1, 8, .inl (fun _ => 0))), (q2, .inl (G.1, 8, .inl (fun _ => 0))), (q3, .inl (G.1, 4, .inl (fun _ => 0))), (q4, .inl (G.1, 4, .inl (fun _ => 0)))] := hD
  refine va_putF (D := D) (ci := 6) (v := .ref q4) (ty := .array .int) (C := RX7) (T := TX7) (N := 11) hx hb hts (by decide +kernel) tyX7 tyX7_ok nmX7 hown hK hP hD hS 0 rfl rfl 9 (by decide) (hts (.fieldLink RX7 24 "StoneWed$Valley" "bedOf" "[I") (by decide +kernel)) (fun _ h9 => h9) rfl hin rfl (by decide +kernel) rfl rfl (Nat.le_of_ble_eq_true rfl) dX7_init_39 (fun H locs hP hD hS => ?_)
  have hP : va_P D vwCl [(h0, .inr (6, [.int 0, .int 0, .int 0, .int 0, .int 0, .ref q0, .ref q1, .ref q2, .ref q3, .ref q4, .null])), (q0, .inl (G.1, 8, .inl (fun _ => 0))), (q1, .inl (G.1, 8, .inl (fun _ => 0))), (q2, .inl (G.1, 8, .inl (fun _ => 0))), (q3, .inl (G.1, 4, .inl (fun _ => 0))), (q4, .inl (G.1, 4, .inl (fun _ => 0)))] H := hP
  have hD : va_D A [(h0, .inr (6, [.int 0, .int 0, .int 0, .int 0, .int 0, .ref q0, .ref q1, .ref q2, .ref q3, .ref q4, .null])), (q0, .inl (G.1, 8, .inl (fun _ => 0))), (q1, .inl (G.1, 8, .inl (fun _ => 0))), (q2, .inl (G.1, 8, .inl (fun _ => 0))), (q3, .inl (G.1, 4, .inl (fun _ => 0))), (q4, .inl (G.1, 4, .inl (fun _ => 0)))] := hD
  refine lv_aload_n hx hb dX7_init_42 rfl (lv_at hl 0 rfl) ?_
  refine lv_iconst (v := (nI 4)) hx hb dX7_init_43 (by decide +kernel) ?_
  refine i_newI (G := G) hx hb (hts (.arrayClass .int) (by decide +kernel)) hK hP hD hS hA 4 (by decide +kernel) (by decide +kernel) (Nat.le_of_ble_eq_true rfl) (Nat.le_of_ble_eq_true rfl) (Nat.le_of_ble_eq_true rfl) dX7_init_44 (fun q5 H hP hD hS => ?_)
  have hP : va_P D vwCl [(h0, .inr (6, [.int 0, .int 0, .int 0, .int 0, .int 0, .ref q0, .ref q1, .ref q2, .ref q3, .ref q4, .null])), (q0, .inl (G.1, 8, .inl (fun _ => 0))), (q1, .inl (G.1, 8, .inl (fun _ => 0))), (q2, .inl (G.1, 8, .inl (fun _ => 0))), (q3, .inl (G.1, 4, .inl (fun _ => 0))), (q4, .inl (G.1, 4, .inl (fun _ => 0))), (q5, .inl (G.1, 4, .inl (fun _ => 0)))] H := hP
  have hD : va_D A [(h0, .inr (6, [.int 0, .int 0, .int 0, .int 0, .int 0, .ref q0, .ref q1, .ref q2, .ref q3, .ref q4, .null])), (q0, .inl (G.1, 8, .inl (fun _ => 0))), (q1, .inl (G.1, 8, .inl (fun _ => 0))), (q2, .inl (G.1, 8, .inl (fun _ => 0))), (q3, .inl (G.1, 4, .inl (fun _ => 0))), (q4, .inl (G.1, 4, .inl (fun _ => 0))), (q5, .inl (G.1, 4, .inl (fun _ => 0)))] := hD
  refine va_putF (D := D) (ci := 6) (v := .ref q5) (ty := .array .int) (C := RX7) (T := TX7) (N := 11) hx hb hts (by decide +kernel) tyX7 tyX7_ok nmX7 hown hK hP hD hS 0 rfl rfl 10 (by decide) (hts (.fieldLink RX7 27 "StoneWed$Valley" "flour" "[I") (by decide +kernel)) (fun _ h9 => h9) rfl hin rfl (by decide +kernel) rfl rfl (Nat.le_of_ble_eq_true rfl) dX7_init_46 (fun H locs hP hD hS => ?_)
  have hP : va_P D vwCl [(h0, .inr (6, [.int 0, .int 0, .int 0, .int 0, .int 0, .ref q0, .ref q1, .ref q2, .ref q3, .ref q4, .ref q5])), (q0, .inl (G.1, 8, .inl (fun _ => 0))), (q1, .inl (G.1, 8, .inl (fun _ => 0))), (q2, .inl (G.1, 8, .inl (fun _ => 0))), (q3, .inl (G.1, 4, .inl (fun _ => 0))), (q4, .inl (G.1, 4, .inl (fun _ => 0))), (q5, .inl (G.1, 4, .inl (fun _ => 0)))] H := hP
  have hD : va_D A [(h0, .inr (6, [.int 0, .int 0, .int 0, .int 0, .int 0, .ref q0, .ref q1, .ref q2, .ref q3, .ref q4, .ref q5])), (q0, .inl (G.1, 8, .inl (fun _ => 0))), (q1, .inl (G.1, 8, .inl (fun _ => 0))), (q2, .inl (G.1, 8, .inl (fun _ => 0))), (q3, .inl (G.1, 4, .inl (fun _ => 0))), (q4, .inl (G.1, 4, .inl (fun _ => 0))), (q5, .inl (G.1, 4, .inl (fun _ => 0)))] := hD
  refine lv_aload_n hx hb dX7_init_49 rfl (lv_at hl 0 rfl) ?_
  refine va_get (D := D) (ci := 6) (v := .ref q4) (C := RX7) (T := TX7) (N := 11) hx hb hts (by decide +kernel) hown hK hP 0 rfl rfl 9 (by decide) (hts (.fieldLink RX7 24 "StoneWed$Valley" "bedOf" "[I") (by decide +kernel)) (fun _ h9 => h9) rfl dX7_init_50 ?_
  refine lv_ldc (v := -1000000) hx hb hown (hts (.constant RX7 30 (-1000000)) (by decide +kernel)) dX7_init_53 ?_
  have hPc := hP.sub (ws' := [(q4, .inl (G.1, 4, .inl (fun _ => 0)))]) [5] rfl
  have hDc := hD.sub (ws' := [(q4, .inl (G.1, 4, .inl (fun _ => 0)))]) [5] (by decide) rfl
  have hFc := va_free (wc := [(q4, .inl (G.1, 4, .inl (fun _ => 0)))]) hD hS hA [5] rfl
  refine va_callv (va_runS (As := [.ref q4, .int (-1000000)]) (rest := []) ⟨hx, hb, hml, hown, hts⟩ (i_fill l D G q4 4 (fun _ => 0) (-1000000) (by decide) H.size) (va_cwS 2 hts gX7_init_J7_fill_53178 rfl rfl rfl (by decide +kernel) ⟨(Nat.le_of_ble_eq_true rfl), (Nat.le_of_ble_eq_true rfl)⟩) ⟨fun a U g mk q => by obtain ⟨q0, q1, qP, qK, qD⟩ := q; exact ⟨q0, q1, qP, va_K.moved (u := U) (U := U.calling g mk a) (Vm.Alike.refl U.vm) qK, qD⟩, fun U hU hW => ⟨rfl, by rw [hU], by rw [hU]; exact hPc, va_K.moved hW.alike hK, hDc.weaken (fun _ _ _ _ => trivial)⟩⟩ rfl rfl hl.1 rfl (lv_room (Nat.le_of_ble_eq_true rfl)) dX7_init_55 ⟨(Nat.le_of_ble_eq_true rfl), (Nat.le_of_ble_eq_true rfl)⟩) hS (fun q _ h => hFc q h) hFc (fun u t H1 locs ht hvm hw hB hz1 hk1 hS => ?_)
  obtain ⟨hP1, hD1⟩ := hB
  rw [ht] at hP1
  obtain ⟨hP, hD⟩ := va_join (wr := [(h0, .inr (6, [.int 0, .int 0, .int 0, .int 0, .int 0, .ref q0, .ref q1, .ref q2, .ref q3, .ref q4, .ref q5])), (q0, .inl (G.1, 8, .inl (fun _ => 0))), (q1, .inl (G.1, 8, .inl (fun _ => 0))), (q2, .inl (G.1, 8, .inl (fun _ => 0))), (q3, .inl (G.1, 4, .inl (fun _ => 0))), (q5, .inl (G.1, 4, .inl (fun _ => 0)))]) (w1 := [(q4, .inl (G.1, 4, .inl (fun j => if j < 4 then (-1000000) else (fun _ => 0) j)))]) hP hD [5] [0, 1, 2, 3, 4, 6] rfl rfl (by decide) (by decide) hk1 hFc hP1 hD1
  generalize H1 = H at hP hS ⊢
  have hP : va_P D vwCl [(h0, .inr (6, [.int 0, .int 0, .int 0, .int 0, .int 0, .ref q0, .ref q1, .ref q2, .ref q3, .ref q4, .ref q5])), (q0, .inl (G.1, 8, .inl (fun _ => 0))), (q1, .inl (G.1, 8, .inl (fun _ => 0))), (q2, .inl (G.1, 8, .inl (fun _ => 0))), (q3, .inl (G.1, 4, .inl (fun _ => 0))), (q5, .inl (G.1, 4, .inl (fun _ => 0))), (q4, .inl (G.1, 4, .inl (fun j => if j < 4 then (-1000000) else (fun _ => 0) j)))] H := hP
  have hD : va_D A [(h0, .inr (6, [.int 0, .int 0, .int 0, .int 0, .int 0, .ref q0, .ref q1, .ref q2, .ref q3, .ref q4, .ref q5])), (q0, .inl (G.1, 8, .inl (fun _ => 0))), (q1, .inl (G.1, 8, .inl (fun _ => 0))), (q2, .inl (G.1, 8, .inl (fun _ => 0))), (q3, .inl (G.1, 4, .inl (fun _ => 0))), (q5, .inl (G.1, 4, .inl (fun _ => 0))), (q4, .inl (G.1, 4, .inl (fun j => if j < 4 then (-1000000) else (fun _ => 0) j)))] := hD
  have hP9 := hP.sub (ws' := [(h0, .inr (6, [.int 0, .int 0, .int 0, .int 0, .int 0, .ref q0, .ref q1, .ref q2, .ref q3, .ref q4, .ref q5])), (q0, .inl (G.1, 8, .inl (fun _ => 0))), (q1, .inl (G.1, 8, .inl (fun _ => 0))), (q2, .inl (G.1, 8, .inl (fun _ => 0))), (q3, .inl (G.1, 4, .inl (fun _ => 0))), (q4, .inl (G.1, 4, .inl (fun j => if j < 4 then (-1000000) else (fun _ => 0) j))), (q5, .inl (G.1, 4, .inl (fun _ => 0)))]) [0, 1, 2, 3, 4, 6, 5] rfl
  have hD9 := hD.sub (ws' := [(h0, .inr (6, [.int 0, .int 0, .int 0, .int 0, .int 0, .ref q0, .ref q1, .ref q2, .ref q3, .ref q4, .ref q5])), (q0, .inl (G.1, 8, .inl (fun _ => 0))), (q1, .inl (G.1, 8, .inl (fun _ => 0))), (q2, .inl (G.1, 8, .inl (fun _ => 0))), (q3, .inl (G.1, 4, .inl (fun _ => 0))), (q4, .inl (G.1, 4, .inl (fun j => if j < 4 then (-1000000) else (fun _ => 0) j))), (q5, .inl (G.1, 4, .inl (fun _ => 0)))]) [0, 1, 2, 3, 4, 6, 5] (by decide) rfl
  refine W.widen (k := 6) (n := 36) (Nat.le_of_ble_eq_true rfl) (Nat.le_of_ble_eq_true rfl) ?_
  exact W.vret hx hb hr (fun t ht hW => ⟨⟨(fun k => ([0, q0, q1, q2, q3, q4, q5] : List Nat).getD k 0, (fun _ => 0), (fun _ => 0), (fun _ => 0)), rfl, trivial, by rw [ht]; exact hP9, hD9⟩, hS.F ht⟩) hS.2.2 dX7_init_58
set_option maxHeartbeats 16000000 in
set_option maxRecDepth 100000 in
theorem ic_X6 (l : Launch) (D : va_G) (G : sw_G) (h0 : Nat) (sz : Nat) : Met l yX6_init wsX6_init ({ frames := 1, cells := 1, slots := 100, locals := 12 }) (va_Pc [.ref h0] (fun U => U.heap.size = sz ∧ va_P D vwCl [(h0, .inr (5, [.null, .int 0]))] U.heap ∧ va_K D vwCl (sw_tys G) U ∧ va_D (fun _ => True) [(h0, .inr (5, [.null, .int 0]))])) (va_Qv (fun _ : (Nat → Nat) × (Nat → Nat) × (Nat → Nat) × (Nat → Nat) => True) (fun u t => va_P D vwCl ([(h0, .inr (5, [.ref (u.1 1), .int 0])), ((u.1 1), .inl (G.1, 100, .inl (fun _ => 0)))]) t.heap ∧ va_D (va_A [(h0, .inr (5, [.null, .int 0]))] sz) ([(h0, .inr (5, [.ref (u.1 1), .int 0])), ((u.1 1), .inl (G.1, 100, .inl (fun _ => 0)))])) (va_A [(h0, .inr (5, [.null, .int 0]))] sz)) 1 100 (va_A [(h0, .inr (5, [.null, .int 0]))] sz) := by
  refine Met.ofW (cc := cX6_init) (maxL := 1) (ret := none) (by decide) rfl ?_
  intro p e s m args below meth c s₁ B hml hv
  obtain ⟨rfl, hsz, hP, hK, hD0⟩ := hv
  have hx := B.exec
  have hb := B.bytes
  have hr := B.returns
  have hts := atoms_spec (ws := wsX6_init) B.pre
  have hown : s.vm.findClass RX6 = some m.cls := findClass_of_methodNamed B.named
  have hlocks := B.notSynchronized
  have hin : meth.name = "<init>" := (name_of_methodNamed B.named B.method).1
  subst hsz
  have hD := hD0.self (sz := s.heap.size)
  generalize hAe : va_A [(h0, .inr (5, [.null, .int 0]))] s.heap.size = A at hD ⊢
  have hA : ∀ q : Nat, s.heap.size ≤ q → A q := fun q h => by rw [← hAe]; exact Or.inr h
  have hS : va_S A s.heap s.heap [] := va_S.rf
  have hP : va_P D vwCl [(h0, .inr (5, [.null, .int 0]))] s.heap := hP
  have hl := lv_entry ([.ref h0]) (n := 1) (Nat.le_of_ble_eq_true rfl)
  rw [lg_entry_eq]
  generalize (lg_sl ([.ref h0]) ++ List.replicate (1 - (lg_sl ([.ref h0])).length) Slot.unset).toArray = ls at hl ⊢
  have hl : lv_has ls 1 [(0, .ref h0)] := hl
  refine lv_aload_n hx hb dX6_init_0 rfl (lv_at hl 0 rfl) ?_
  refine W.objInit hx hb hown (hts (.methodLink RX6 1 objectInit) (by decide +kernel)) (hts (.instanceMethod objectInit) (by decide +kernel)) (hts (.code objectInit ⟨#[0xb1]⟩ 1 none) (by decide +kernel)) rfl (by rw [hml]; exact hl.1) rfl dX6_init_1 (Nat.le_of_ble_eq_true rfl) (Nat.le_of_ble_eq_true rfl) ?_
  refine W.eq (g2 := F0 m 4 ls []) rfl ?_
  refine lv_aload_n hx hb dX6_init_4 rfl (lv_at hl 0 rfl) ?_
  refine lv_bipush (v := (nI 100)) hx hb dX6_init_5 (by decide +kernel) ?_
  refine i_newI (G := G) hx hb (hts (.arrayClass .int) (by decide +kernel)) hK hP hD hS hA 100 (by decide +kernel) (by decide +kernel) (Nat.le_of_ble_eq_true rfl) (Nat.le_of_ble_eq_true rfl) (Nat.le_of_ble_eq_true rfl) dX6_init_7 (fun q0 H hP hD hS => ?_)
  have hP : va_P D vwCl [(h0, .inr (5, [.null, .int 0])), (q0, .inl (G.1, 100, .inl (fun _ => 0)))] H := hP
  have hD : va_D A [(h0, .inr (5, [.null, .int 0])), (q0, .inl (G.1, 100, .inl (fun _ => 0)))] := hD
  refine va_putF (D := D) (ci := 5) (v := .ref q0) (ty := .array .int) (C := RX6) (T := TX6) (N := 2) hx hb hts (by decide +kernel) tyX6 tyX6_ok nmX6 hown hK hP hD hS 0 rfl rfl 0 (by decide) (hts (.fieldLink RX6 9 "StoneWed$Tape" "bytes" "[I") (by decide +kernel)) (fun _ h9 => h9) rfl hin rfl (by decide +kernel) rfl rfl (Nat.le_of_ble_eq_true rfl) dX6_init_9 (fun H locs hP hD hS => ?_)
  have hP : va_P D vwCl [(h0, .inr (5, [.ref q0, .int 0])), (q0, .inl (G.1, 100, .inl (fun _ => 0)))] H := hP
  have hD : va_D A [(h0, .inr (5, [.ref q0, .int 0])), (q0, .inl (G.1, 100, .inl (fun _ => 0)))] := hD
  have hP9 := hP.sub (ws' := [(h0, .inr (5, [.ref q0, .int 0])), (q0, .inl (G.1, 100, .inl (fun _ => 0)))]) [0, 1] rfl
  have hD9 := hD.sub (ws' := [(h0, .inr (5, [.ref q0, .int 0])), (q0, .inl (G.1, 100, .inl (fun _ => 0)))]) [0, 1] (by decide) rfl
  refine W.widen (k := 1) (n := 100) (Nat.le_of_ble_eq_true rfl) (Nat.le_of_ble_eq_true rfl) ?_
  exact W.vret hx hb hr (fun t ht hW => ⟨⟨(fun k => ([0, q0] : List Nat).getD k 0, (fun _ => 0), (fun _ => 0), (fun _ => 0)), rfl, trivial, by rw [ht]; exact hP9, hD9⟩, hS.F ht⟩) hS.2.2 dX6_init_12
set_option maxHeartbeats 16000000 in
set_option maxRecDepth 100000 in
theorem ic_X1 (l : Launch) (D : va_G) (G : sw_G) (h0 : Nat) (sz : Nat) : Met l yX1_init wsX1_init ({ frames := 1, cells := 1, slots := 16, locals := 12 }) (va_Pc [.ref h0] (fun U => U.heap.size = sz ∧ va_P D vwCl [(h0, .inr (1, [.null, .int 0, .int 0, .int 0, .int 0, .int 0]))] U.heap ∧ va_K D vwCl (sw_tys G) U ∧ va_D (fun _ => True) [(h0, .inr (1, [.null, .int 0, .int 0, .int 0, .int 0, .int 0]))])) (va_Qv (fun _ : (Nat → Nat) × (Nat → Nat) × (Nat → Nat) × (Nat → Nat) => True) (fun u t => va_P D vwCl ([(h0, .inr (1, [.ref (u.1 1), .int 0, .int 0, .int 0, .int 0, .int 0])), ((u.1 1), .inl (G.1, 16, .inl (fun _ => 0)))]) t.heap ∧ va_D (va_A [(h0, .inr (1, [.null, .int 0, .int 0, .int 0, .int 0, .int 0]))] sz) ([(h0, .inr (1, [.ref (u.1 1), .int 0, .int 0, .int 0, .int 0, .int 0])), ((u.1 1), .inl (G.1, 16, .inl (fun _ => 0)))])) (va_A [(h0, .inr (1, [.null, .int 0, .int 0, .int 0, .int 0, .int 0]))] sz)) 1 16 (va_A [(h0, .inr (1, [.null, .int 0, .int 0, .int 0, .int 0, .int 0]))] sz) := by
  refine Met.ofW (cc := cX1_init) (maxL := 1) (ret := none) (by decide) rfl ?_
  intro p e s m args below meth c s₁ B hml hv
  obtain ⟨rfl, hsz, hP, hK, hD0⟩ := hv
  have hx := B.exec
  have hb := B.bytes
  have hr := B.returns
  have hts := atoms_spec (ws := wsX1_init) B.pre
  have hown : s.vm.findClass RX1 = some m.cls := findClass_of_methodNamed B.named
  have hlocks := B.notSynchronized
  have hin : meth.name = "<init>" := (name_of_methodNamed B.named B.method).1
  subst hsz
  have hD := hD0.self (sz := s.heap.size)
  generalize hAe : va_A [(h0, .inr (1, [.null, .int 0, .int 0, .int 0, .int 0, .int 0]))] s.heap.size = A at hD ⊢
  have hA : ∀ q : Nat, s.heap.size ≤ q → A q := fun q h => by rw [← hAe]; exact Or.inr h
  have hS : va_S A s.heap s.heap [] := va_S.rf
  have hP : va_P D vwCl [(h0, .inr (1, [.null, .int 0, .int 0, .int 0, .int 0, .int 0]))] s.heap := hP
  have hl := lv_entry ([.ref h0]) (n := 1) (Nat.le_of_ble_eq_true rfl)
  rw [lg_entry_eq]
  generalize (lg_sl ([.ref h0]) ++ List.replicate (1 - (lg_sl ([.ref h0])).length) Slot.unset).toArray = ls at hl ⊢
  have hl : lv_has ls 1 [(0, .ref h0)] := hl
  refine lv_aload_n hx hb dX1_init_0 rfl (lv_at hl 0 rfl) ?_
  refine W.objInit hx hb hown (hts (.methodLink RX1 3 objectInit) (by decide +kernel)) (hts (.instanceMethod objectInit) (by decide +kernel)) (hts (.code objectInit ⟨#[0xb1]⟩ 1 none) (by decide +kernel)) rfl (by rw [hml]; exact hl.1) rfl dX1_init_1 (Nat.le_of_ble_eq_true rfl) (Nat.le_of_ble_eq_true rfl) ?_
  refine W.eq (g2 := F0 m 4 ls []) rfl ?_
  refine lv_aload_n hx hb dX1_init_4 rfl (lv_at hl 0 rfl) ?_
  refine lv_bipush (v := (nI 16)) hx hb dX1_init_5 (by decide +kernel) ?_
  refine i_newI (G := G) hx hb (hts (.arrayClass .int) (by decide +kernel)) hK hP hD hS hA 16 (by decide +kernel) (by decide +kernel) (Nat.le_of_ble_eq_true rfl) (Nat.le_of_ble_eq_true rfl) (Nat.le_of_ble_eq_true rfl) dX1_init_7 (fun q0 H hP hD hS => ?_)
  have hP : va_P D vwCl [(h0, .inr (1, [.null, .int 0, .int 0, .int 0, .int 0, .int 0])), (q0, .inl (G.1, 16, .inl (fun _ => 0)))] H := hP
  have hD : va_D A [(h0, .inr (1, [.null, .int 0, .int 0, .int 0, .int 0, .int 0])), (q0, .inl (G.1, 16, .inl (fun _ => 0)))] := hD
  refine va_putF (D := D) (ci := 1) (v := .ref q0) (ty := .array .int) (C := RX1) (T := TX1) (N := 6) hx hb hts (by decide +kernel) tyX1 tyX1_ok nmX1 hown hK hP hD hS 0 rfl rfl 0 (by decide) (hts (.fieldLink RX1 11 "StoneWed$Asks" "left" "[I") (by decide +kernel)) (fun _ h9 => h9) rfl hin rfl (by decide +kernel) rfl rfl (Nat.le_of_ble_eq_true rfl) dX1_init_9 (fun H locs hP hD hS => ?_)
  have hP : va_P D vwCl [(h0, .inr (1, [.ref q0, .int 0, .int 0, .int 0, .int 0, .int 0])), (q0, .inl (G.1, 16, .inl (fun _ => 0)))] H := hP
  have hD : va_D A [(h0, .inr (1, [.ref q0, .int 0, .int 0, .int 0, .int 0, .int 0])), (q0, .inl (G.1, 16, .inl (fun _ => 0)))] := hD
  have hP9 := hP.sub (ws' := [(h0, .inr (1, [.ref q0, .int 0, .int 0, .int 0, .int 0, .int 0])), (q0, .inl (G.1, 16, .inl (fun _ => 0)))]) [0, 1] rfl
  have hD9 := hD.sub (ws' := [(h0, .inr (1, [.ref q0, .int 0, .int 0, .int 0, .int 0, .int 0])), (q0, .inl (G.1, 16, .inl (fun _ => 0)))]) [0, 1] (by decide) rfl
  refine W.widen (k := 1) (n := 16) (Nat.le_of_ble_eq_true rfl) (Nat.le_of_ble_eq_true rfl) ?_
  exact W.vret hx hb hr (fun t ht hW => ⟨⟨(fun k => ([0, q0] : List Nat).getD k 0, (fun _ => 0), (fun _ => 0), (fun _ => 0)), rfl, trivial, by rw [ht]; exact hP9, hD9⟩, hS.F ht⟩) hS.2.2 dX1_init_12
