section REG
variable {d p : Nat} {τ : Tp} {s : Ss} {S : Tw} {M N : sw_Mem} {Q : Option Value → sw_Mem → Prop}
theorem bz_0 {s : Ss} (h : s.1 = 0) : bz s = nI 1 := if_pos h
theorem bz_n {s : Ss} (h : s.1 ≠ 0) : bz s = nI 0 := if_neg h
theorem s_eq {s : Ss} (h : s.1 = 0) : s = (0, s.2) := by rw [← h]
def oL (τ : Tp) (s : Ss) (S : Tw) (N N' : sw_Mem) : Prop := mR τ s.2 N' ∧ (s.1 ≠ 0 → N' 0 14 = nI s.1) ∧ (∀ k, k ≠ 0 → k ≠ 1 → N' k = N k) ∧ (∀ j, j ≠ 13 → j ≠ 14 → j ≠ 15 → N' 0 j = N 0 j) ∧ (∀ j, j < 1107 → N' 1 j = N 1 j) ∧ (s.1 = 0 → IsM N' 1107 S)
def gN (N N' : sw_Mem) : Prop := (∀ k, k ≠ 0 → k ≠ 1 → N' k = N k) ∧ (∀ j, j ≠ 13 → j ≠ 14 → j ≠ 15 → N' 0 j = N 0 j) ∧ (∀ j, j < 1107 → N' 1 j = N 1 j)
theorem gN.rf : gN N N := ⟨fun _ _ _ => rfl, fun _ _ _ _ => rfl, fun _ _ => rfl⟩
theorem gN.tr {N1 N2 : sw_Mem} (h : gN N N1) (h2 : gN N1 N2) : gN N N2 := ⟨fun k k1 k2 => (h2.1 k k1 k2).trans (h.1 k k1 k2), fun j j1 j2 j3 => (h2.2.1 j j1 j2 j3).trans (h.2.1 j j1 j2 j3), fun j hj => (h2.2.2 j hj).trans (h.2.2 j hj)⟩
theorem gN.f {N' : sw_Mem} (h : fN N N') : gN N N' := ⟨fun k k1 _ => h.1 k k1, h.2, fun j _ => by rw [h.1 1 (by omega)]⟩
theorem gN.u {x : Int32} {j : Nat} (hj : 1107 ≤ j) : gN N (sw_up N 1 j x) := ⟨fun k _ k2 => z_up_n _ _ k2, fun j _ _ _ => by rw [z_up_n _ _ (by omega)], fun q hq => z_up_j _ _ (by omega)⟩
theorem mR_u {x : Int32} {j : Nat} (h : mR τ p N) : mR τ p (sw_up N 1 j x) := ⟨⟨by rw [z_up_n _ _ (by omega)]; exact h.1.1, fun i hi => by rw [z_up_n _ _ (by omega)]; exact h.1.2 i hi⟩, by rw [z_up_n _ _ (by omega)]; exact h.2⟩
/-- a number told, and put where it goes -/
def oG (τ : Tp) (s : Ss) (N N' : sw_Mem) : Prop := mR τ s.2 N' ∧ (s.1 ≠ 0 → N' 0 14 = nI s.1) ∧ gN N N'
theorem oM.G {N' : sw_Mem} (h : oM τ s N N') : oG τ s N N' := ⟨h.1, h.2.1, gN.f h.2.2⟩
theorem oG.pre {N1 N' : sw_Mem} (h : gN N N1) (h2 : oG τ s N1 N') : oG τ s N N' := ⟨h2.1, h2.2.1, h.tr h2.2.2⟩
theorem IsM_f {N' : sw_Mem} (h : IsM N 1107 S) (e : fN N N') : IsM N' 1107 S := IsM_c h (fun j _ _ => by rw [e.1 1 (by omega)])
theorem k149 (h : mR τ p N) (hO : OTp τ) (hp : p ≤ τ.2) {x : Nat} (hx : x + 8 < 41) (hS : IsM N 1107 S) : ∃ N', oG τ (stS τ (0, p)) N N' ∧ ((stS τ (0, p)).1 = 0 → IsM N' 1107 (upT (upT (upT S x (st1 τ (0, p))) (x + 4) (st2 τ (0, p))) (x + 8) (st3 τ (0, p)))) ∧ ∀ Q, sw_Cal (d + 4) 149 [.ref 0, .int (nI (1107 + x))] N Q = Q (some (.int (bz (stS τ (0, p))))) N' := by
  have o0 : oS τ (0, p) := ⟨Nat.zero_le _, hp⟩
  have l0 : (nI 0 ≤ 0) = True := eq_true (by decide)
  have l1 : (nI (0 + 1) ≤ 0) = False := eq_false (by decide)
  have l2 : (nI (0 + 1 + 1) ≤ 0) = False := eq_false (by decide)
  have i1 : 4 * (0 + 1) = 4 := rfl
  have i2 : 4 * (0 + 1 + 1) = 8 := rfl
  obtain ⟨N1, a1, a2, a3⟩ := k147 (d := d) h hO hp (lo := 0) (hi := 9) (by omega) (by omega)
  have o1 := nmS_ok (lo := 0) (hi := 9) o0
  by_cases c1 : (nmS τ 0 9 (0, p)).1 = 0
  case neg =>
    have e : stS τ (0, p) = nmS τ 0 9 (0, p) := by unfold stS; rw [tkS_f c1, nmS_f c1, tkS_f c1, nmS_f c1]
    rw [e]
    refine ⟨N1, a1.G, fun w => absurd w c1, fun Q => ?_⟩
    rw [bz_n c1] at a3 ⊢
    rw [c149]
    simp (disch := omega) only [s149_0, s149_1, s149_2, s149_3, s149_4, s149_7, s149_8, s149_11, s149_12, s149_14, s149_17, s149_20, s149_21, s149_22, s149_24, s149_27, s149_30, s149_31, s149_32, s149_33, s149_36, s149_37, s149_38, s149_39, s149_40, s149_41, s149_42, s149_45, s149_46, s149_49, s149_52, s149_53, z_lt_t, z_lt_f, z_le_t, z_le_f, z_lt0, z_ge0, z_cl, z_in, z_add, z_eq_f, z_ne0, z_00, z_10, z_01, z_11, z_neg1, z_nI_NONE, z_div, z_rem, z_rem2, sw_pu_s, sw_pu_n, true_and, and_true, true_or, or_true, if_true, if_false, not_true_eq_false, not_false_eq_true, l0, a3]
  have a2 := a2 c1
  rw [bz_0 c1] at a3
  have S1 : IsM (sw_up N1 1 (1107 + x) (nI (st1 τ (0, p)))) 1107 (upT S x (st1 τ (0, p))) := IsM.up (IsM_f hS a1.2.2) x _
  have m1 := mR_u (x := nI (st1 τ (0, p))) (j := 1107 + x) a1.1
  obtain ⟨N2, b1', b3⟩ := k146 (d := d + 1) m1 hO o1.2 (c := 44) (by omega)
  rw [← s_eq c1] at b1' b3
  have o2 := tkS_ok (c := 44) o1
  have g2 : gN N N2 := ((gN.f a1.2.2).tr (gN.u (by omega))).tr (gN.f b1'.2.2)
  by_cases c2 : (tkS τ 44 (nmS τ 0 9 (0, p))).1 = 0
  case neg =>
    have e : stS τ (0, p) = tkS τ 44 (nmS τ 0 9 (0, p)) := by unfold stS; rw [nmS_f c2, tkS_f c2, nmS_f c2]
    rw [e]
    refine ⟨N2, ⟨b1'.1, b1'.2.1, g2⟩, fun w => absurd w c2, fun Q => ?_⟩
    rw [bz_n c2] at b3 ⊢
    rw [c149]
    have r1 : N1 0 15 = nI (st1 τ (0, p)) := a2
    simp (disch := omega) only [s149_0, s149_1, s149_2, s149_3, s149_4, s149_7, s149_8, s149_11, s149_12, s149_14, s149_17, s149_20, s149_21, s149_22, s149_24, s149_27, s149_30, s149_31, s149_32, s149_33, s149_36, s149_37, s149_38, s149_39, s149_40, s149_41, s149_42, s149_45, s149_46, s149_49, s149_52, s149_53, z_lt_t, z_lt_f, z_le_t, z_le_f, z_lt0, z_ge0, z_cl, z_in, z_add, z_eq_f, z_ne0, z_00, z_10, z_01, z_11, z_neg1, z_nI_NONE, z_div, z_rem, z_rem2, sw_pu_s, sw_pu_n, true_and, and_true, true_or, or_true, if_true, if_false, not_true_eq_false, not_false_eq_true, z_mul, l0, l1, l2, i1, i2, a3, r1, b3, Nat.mul_zero, Nat.add_zero]
  rw [bz_0 c2] at b3
  have S2 := IsM_f S1 b1'.2.2
  obtain ⟨N3, e1, e2, e3⟩ := k147 (d := d) b1'.1 hO o2.2 (lo := 0) (hi := 9) (by omega) (by omega)
  rw [← s_eq c2] at e1 e2 e3
  have o3 := nmS_ok (lo := 0) (hi := 9) o2
  have g3 := g2.tr (gN.f e1.2.2)
  by_cases c3 : (nmS τ 0 9 (tkS τ 44 (nmS τ 0 9 (0, p)))).1 = 0
  case neg =>
    have e : stS τ (0, p) = nmS τ 0 9 (tkS τ 44 (nmS τ 0 9 (0, p))) := by unfold stS; rw [tkS_f c3, nmS_f c3]
    rw [e]
    refine ⟨N3, ⟨e1.1, e1.2.1, g3⟩, fun w => absurd w c3, fun Q => ?_⟩
    rw [bz_n c3] at e3 ⊢
    rw [c149]
    have r1 : N1 0 15 = nI (st1 τ (0, p)) := a2
    simp (disch := omega) only [s149_0, s149_1, s149_2, s149_3, s149_4, s149_7, s149_8, s149_11, s149_12, s149_14, s149_17, s149_20, s149_21, s149_22, s149_24, s149_27, s149_30, s149_31, s149_32, s149_33, s149_36, s149_37, s149_38, s149_39, s149_40, s149_41, s149_42, s149_45, s149_46, s149_49, s149_52, s149_53, z_lt_t, z_lt_f, z_le_t, z_le_f, z_lt0, z_ge0, z_cl, z_in, z_add, z_eq_f, z_ne0, z_00, z_10, z_01, z_11, z_neg1, z_nI_NONE, z_div, z_rem, z_rem2, sw_pu_s, sw_pu_n, true_and, and_true, true_or, or_true, if_true, if_false, not_true_eq_false, not_false_eq_true, z_mul, l0, l1, l2, i1, i2, a3, r1, b3, e3, Nat.mul_zero, Nat.add_zero]
  have e2 := e2 c3
  rw [bz_0 c3] at e3
  have S3 : IsM (sw_up N3 1 (1107 + (x + 4)) (nI (st2 τ (0, p)))) 1107 (upT (upT S x (st1 τ (0, p))) (x + 4) (st2 τ (0, p))) := IsM.up (IsM_f S2 e1.2.2) (x + 4) _
  rw [← Nat.add_assoc] at S3
  have m3 := mR_u (x := nI (st2 τ (0, p))) (j := 1107 + x + 4) e1.1
  obtain ⟨N4, q1, q3⟩ := k146 (d := d + 1) m3 hO o3.2 (c := 44) (by omega)
  rw [← s_eq c3] at q1 q3
  have o4 := tkS_ok (c := 44) o3
  have g4 := (g3.tr (gN.u (j := 1107 + x + 4) (x := nI (st2 τ (0, p))) (by omega))).tr (gN.f q1.2.2)
  have r1 : N1 0 15 = nI (st1 τ (0, p)) := a2
  have r3 : N3 0 15 = nI (st2 τ (0, p)) := e2
  by_cases c4 : (tkS τ 44 (nmS τ 0 9 (tkS τ 44 (nmS τ 0 9 (0, p))))).1 = 0
  case neg =>
    have e : stS τ (0, p) = tkS τ 44 (nmS τ 0 9 (tkS τ 44 (nmS τ 0 9 (0, p)))) := by unfold stS; rw [nmS_f c4]
    rw [e]
    refine ⟨N4, ⟨q1.1, q1.2.1, g4⟩, fun w => absurd w c4, fun Q => ?_⟩
    rw [bz_n c4] at q3 ⊢
    rw [c149]
    simp (disch := omega) only [s149_0, s149_1, s149_2, s149_3, s149_4, s149_7, s149_8, s149_11, s149_12, s149_14, s149_17, s149_20, s149_21, s149_22, s149_24, s149_27, s149_30, s149_31, s149_32, s149_33, s149_36, s149_37, s149_38, s149_39, s149_40, s149_41, s149_42, s149_45, s149_46, s149_49, s149_52, s149_53, z_lt_t, z_lt_f, z_le_t, z_le_f, z_lt0, z_ge0, z_cl, z_in, z_add, z_eq_f, z_ne0, z_00, z_10, z_01, z_11, z_neg1, z_nI_NONE, z_div, z_rem, z_rem2, sw_pu_s, sw_pu_n, true_and, and_true, true_or, or_true, if_true, if_false, not_true_eq_false, not_false_eq_true, z_mul, l0, l1, l2, i1, i2, a3, r1, b3, e3, r3, q3, Nat.mul_zero, Nat.add_zero]
  rw [bz_0 c4] at q3
  have S4 := IsM_f S3 q1.2.2
  obtain ⟨N5, t1, t2, t3⟩ := k147 (d := d) q1.1 hO o4.2 (lo := 0) (hi := 9) (by omega) (by omega)
  rw [← s_eq c4] at t1 t2 t3
  have ef : stS τ (0, p) = nmS τ 0 9 (tkS τ 44 (nmS τ 0 9 (tkS τ 44 (nmS τ 0 9 (0, p))))) := rfl
  rw [← ef] at t1 t2 t3
  by_cases c5 : (stS τ (0, p)).1 = 0
  · have t2 := t2 c5
    rw [bz_0 c5] at t3 ⊢
    have S5 : IsM (sw_up N5 1 (1107 + (x + 8)) (nI (st3 τ (0, p)))) 1107 _ := IsM.up (IsM_f S4 t1.2.2) (x + 8) (st3 τ (0, p))
    rw [← Nat.add_assoc] at S5
    refine ⟨sw_up N5 1 (1107 + x + 8) (nI (st3 τ (0, p))), ⟨mR_u t1.1, fun w => absurd c5 w, (g4.tr (gN.f t1.2.2)).tr (gN.u (by omega))⟩, fun _ => S5, fun Q => ?_⟩
    have r5 : N5 0 15 = nI (st3 τ (0, p)) := t2
    rw [c149]
    simp (disch := omega) only [s149_0, s149_1, s149_2, s149_3, s149_4, s149_7, s149_8, s149_11, s149_12, s149_14, s149_17, s149_20, s149_21, s149_22, s149_24, s149_27, s149_30, s149_31, s149_32, s149_33, s149_36, s149_37, s149_38, s149_39, s149_40, s149_41, s149_42, s149_45, s149_46, s149_49, s149_52, s149_53, z_lt_t, z_lt_f, z_le_t, z_le_f, z_lt0, z_ge0, z_cl, z_in, z_add, z_eq_f, z_ne0, z_00, z_10, z_01, z_11, z_neg1, z_nI_NONE, z_div, z_rem, z_rem2, sw_pu_s, sw_pu_n, true_and, and_true, true_or, or_true, if_true, if_false, not_true_eq_false, not_false_eq_true, z_mul, l0, l1, l2, i1, i2, a3, r1, b3, e3, r3, q3, t3, r5, Nat.mul_zero, Nat.add_zero]
  · refine ⟨N5, ⟨t1.1, t1.2.1, g4.tr (gN.f t1.2.2)⟩, fun w => absurd w c5, fun Q => ?_⟩
    rw [bz_n c5] at t3 ⊢
    rw [c149]
    simp (disch := omega) only [s149_0, s149_1, s149_2, s149_3, s149_4, s149_7, s149_8, s149_11, s149_12, s149_14, s149_17, s149_20, s149_21, s149_22, s149_24, s149_27, s149_30, s149_31, s149_32, s149_33, s149_36, s149_37, s149_38, s149_39, s149_40, s149_41, s149_42, s149_45, s149_46, s149_49, s149_52, s149_53, z_lt_t, z_lt_f, z_le_t, z_le_f, z_lt0, z_ge0, z_cl, z_in, z_add, z_eq_f, z_ne0, z_00, z_10, z_01, z_11, z_neg1, z_nI_NONE, z_div, z_rem, z_rem2, sw_pu_s, sw_pu_n, true_and, and_true, true_or, or_true, if_true, if_false, not_true_eq_false, not_false_eq_true, z_mul, l0, l1, l2, i1, i2, a3, r1, b3, e3, r3, q3, t3, Nat.mul_zero, Nat.add_zero]
end REG
