def wyF (T : Tw) (s c n : Nat) : Nat := if T (37 + n) = 4 then (if bit s n = 1 then 0 else 1) else (if bit s n = 1 then 10 - c else c)
def wyC (T : Tw) (s c : Nat) : Nat → Nat
  | 0 => 1
  | n + 1 => wyC T s c n * wyF T s c n
theorem wyC_s (T : Tw) (s c n : Nat) : wyC T s c (n + 1) = wyC T s c n * wyF T s c n := rfl
theorem wyC_0 {T : Tw} {s c r : Nat} (h : wyF T s c r = 0) : ∀ n, wyC T s c (r + 1 + n) = 0 := by
  intro n
  induction n with
  | zero => show wyC T s c r * wyF T s c r = 0; rw [h, Nat.mul_zero]
  | succ n ih => show wyC T s c (r + 1 + n) * _ = 0; rw [ih, Nat.zero_mul]
theorem wyF_le {T : Tw} {s c : Nat} (hc : c ≤ 10) (n : Nat) : wyF T s c n ≤ 10 := by
  unfold wyF
  split
  · split <;> omega
  · split <;> omega
theorem wyC_le {T : Tw} {s c : Nat} (hc : c ≤ 10) : ∀ n, wyC T s c n ≤ 10 ^ n := by
  intro n
  induction n with
  | zero => exact Nat.le_refl 1
  | succ n ih =>
    rw [wyC_s, Nat.pow_succ]
    exact Nat.mul_le_mul ih (wyF_le hc n)
theorem p10_le {n : Nat} (h : n ≤ 4) : 10 ^ n ≤ 10000 := by
  rcases (show n = 0 ∨ n = 1 ∨ n = 2 ∨ n = 3 ∨ n = 4 by omega) with rfl | rfl | rfl | rfl | rfl <;> decide
section WYT
variable {d : Nat} {M : sw_Mem} {T : Tw} {Q : Option Value → sw_Mem → Prop}
theorem k23L (hV : IsV M 34 T) (hW : WF T) {s c : Nat} (hs : s < 16) (hc : c ≤ 10) : ∀ n r, r + n = T 1 → sw_WP (d + 1) 23 5 [.ref 34, .int (nI s), .int (nI c), .int (nI (wyC T s c r)), .int (nI r)] [] M Q = Q (some (.int (nI (wyC T s c (T 1))))) M := by
  have w0 := hW.1
  have w1 := hW.2.1
  have hv := hV.1
  have h4 := hV.2.1.2.2.2.2
  intro n
  induction n with
  | zero =>
    intro r h
    obtain rfl : r = T 1 := by omega
    refine (s23_5 ..).trans ?_
    simp (disch := omega) only [s23_7, s23_8, s23_11, s23_14, s23_15, s23_18, s23_20, s23_21, s23_23, s23_26, s23_27, s23_28, s23_30, s23_33, s23_36, s23_38, s23_39, s23_40, s23_43, s23_44, s23_45, s23_46, s23_49, s23_50, s23_52, s23_55, s23_58, s23_59, s23_60, s23_63, s23_66, s23_67, z_lt_t, z_lt_f, z_le_t, z_le_f, z_lt0, z_ge0, z_cl, z_in, z_add, z_eq_f, z_ne0, z_00, z_10, z_01, z_11, z_neg1, z_nI_NONE, z_div, z_rem, z_rem2, sw_pu_s, sw_pu_n, true_and, and_true, true_or, or_true, if_true, if_false, not_true_eq_false, not_false_eq_true, h4, hv]
  | succ n ih =>
    intro r h
    have := ih (r + 1) (by omega)
    have h24 := fun d Q => k24 (d := d) (M := M) (Q := Q) hs (show r < 4 by omega)
    have r5 := (hV.2.2.1 r (by omega)).2.2.2.2
    have y6 := (hW.2.2.2.2.2.1 r (by omega)).2.2.2.2.2
    have hl := wyC_le (T := T) (s := s) hc r
    have hp := p10_le (n := r) (by omega)
    refine (s23_5 ..).trans ?_
    by_cases e : T (37 + r) = 4
    · by_cases b : bit s r = 1
      · have h24 := fun d Q => (h24 d Q).trans (if_pos b)
        have hz := wyC_0 (T := T) (s := s) (c := c) (r := r) (by unfold wyF; rw [if_pos e, if_pos b]) n
        rw [show r + 1 + n = T 1 by omega] at hz
        rw [hz]
        simp (disch := omega) only [s23_7, s23_8, s23_11, s23_14, s23_15, s23_18, s23_20, s23_21, s23_23, s23_26, s23_27, s23_28, s23_30, s23_33, s23_36, s23_38, s23_39, s23_40, s23_43, s23_44, s23_45, s23_46, s23_49, s23_50, s23_52, s23_55, s23_58, s23_59, s23_60, s23_63, s23_66, s23_67, z_lt_t, z_lt_f, z_le_t, z_le_f, z_lt0, z_ge0, z_cl, z_in, z_add, z_eq_f, z_ne0, z_00, z_10, z_01, z_11, z_neg1, z_nI_NONE, z_div, z_rem, z_rem2, sw_pu_s, sw_pu_n, true_and, and_true, true_or, or_true, if_true, if_false, not_true_eq_false, not_false_eq_true, h4, hv, r5, z_bn, e, h24]
      · have h24 := fun d Q => (h24 d Q).trans (if_neg b)
        rw [wyC_s, show wyF T s c r = 1 by unfold wyF; rw [if_pos e, if_neg b], Nat.mul_one] at this
        simp (disch := omega) only [s23_7, s23_8, s23_11, s23_14, s23_15, s23_18, s23_20, s23_21, s23_23, s23_26, s23_27, s23_28, s23_30, s23_33, s23_36, s23_38, s23_39, s23_40, s23_43, s23_44, s23_45, s23_46, s23_49, s23_50, s23_52, s23_55, s23_58, s23_59, s23_60, s23_63, z_lt_t, z_lt_f, z_le_t, z_le_f, z_lt0, z_ge0, z_cl, z_in, z_add, z_eq_f, z_ne0, z_00, z_10, z_01, z_11, z_neg1, z_nI_NONE, z_div, z_rem, z_rem2, sw_pu_s, sw_pu_n, true_and, and_true, true_or, or_true, if_true, if_false, not_true_eq_false, not_false_eq_true, h4, hv, r5, z_bn, e, h24]
        exact this
    · by_cases b : bit s r = 1
      · have h24 := fun d Q => (h24 d Q).trans (if_pos b)
        rw [wyC_s, show wyF T s c r = 10 - c by unfold wyF; rw [if_neg e, if_pos b]] at this
        simp (disch := omega) only [s23_7, s23_8, s23_11, s23_14, s23_15, s23_18, s23_20, s23_21, s23_23, s23_26, s23_27, s23_28, s23_30, s23_33, s23_36, s23_38, s23_39, s23_40, s23_43, s23_44, s23_45, s23_46, s23_49, s23_50, s23_52, s23_55, s23_58, s23_59, s23_60, s23_63, z_lt_t, z_lt_f, z_le_t, z_le_f, z_lt0, z_ge0, z_cl, z_in, z_add, z_eq_f, z_ne0, z_00, z_10, z_01, z_11, z_neg1, z_nI_NONE, z_div, z_rem, z_rem2, sw_pu_s, sw_pu_n, true_and, and_true, true_or, or_true, if_true, if_false, not_true_eq_false, not_false_eq_true, h4, hv, r5, z_bn, e, h24, z_sub, z_mul]
        exact this
      · have h24 := fun d Q => (h24 d Q).trans (if_neg b)
        rw [wyC_s, show wyF T s c r = c by unfold wyF; rw [if_neg e, if_neg b]] at this
        simp (disch := omega) only [s23_7, s23_8, s23_11, s23_14, s23_15, s23_18, s23_20, s23_21, s23_23, s23_26, s23_27, s23_28, s23_30, s23_33, s23_36, s23_38, s23_39, s23_40, s23_43, s23_44, s23_45, s23_46, s23_49, s23_50, s23_52, s23_55, s23_58, s23_59, s23_60, s23_63, z_lt_t, z_lt_f, z_le_t, z_le_f, z_lt0, z_ge0, z_cl, z_in, z_add, z_eq_f, z_ne0, z_00, z_10, z_01, z_11, z_neg1, z_nI_NONE, z_div, z_rem, z_rem2, sw_pu_s, sw_pu_n, true_and, and_true, true_or, or_true, if_true, if_false, not_true_eq_false, not_false_eq_true, h4, hv, r5, z_bn, e, h24, z_mul]
        exact this
theorem k23 (hV : IsV M 34 T) (hW : WF T) {s c : Nat} (hs : s < 16) (hc : c ≤ 10) : sw_Cal (d + 2) 23 [.ref 34, .int (nI s), .int (nI c)] M Q = Q (some (.int (nI (wyC T s c (T 1))))) M := by
  have := k23L (d := d) (Q := Q) hV hW hs hc (T 1) 0 (by omega)
  rw [c23]
  simp (disch := omega) only [s23_0, s23_1, s23_2, s23_3]
  exact this
end WYT
