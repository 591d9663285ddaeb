/-! ways -/
def alW (T : Tw) : Nat → Nat
  | 0 => 1
  | n + 1 => alW T n * (if T (37 + n) = 4 then 1 else 10)
theorem alW_s (T : Tw) (n : Nat) : alW T (n + 1) = alW T n * (if T (37 + n) = 4 then 1 else 10) := rfl
theorem alW_le (T : Tw) : ∀ n, 0 < alW T n ∧ alW T n ≤ 10 ^ n := by
  intro n
  induction n with
  | zero => exact ⟨Nat.one_pos, Nat.le_refl 1⟩
  | succ n ih =>
    rw [alW_s, Nat.pow_succ]
    by_cases e : T (37 + n) = 4
    · rw [if_pos e]
      omega
    · rw [if_neg e]
      omega
def gbT (T : Tw) (s n : Nat) : Nat := sm (fun r => if bit s r = 1 then gnT T r else 0) n
theorem gbT_s (T : Tw) (s n : Nat) : gbT T s (n + 1) = gbT T s n + (if bit s n = 1 then gnT T n else 0) := rfl
section WYS
variable {d : Nat} {M : sw_Mem} {T : Tw} {Q : Option Value → sw_Mem → Prop}
theorem gbT_le (hW : WF T) (s : Nat) {n : Nat} (hn : n ≤ T 1) : gbT T s n ≤ 36 * n := sm_le (fun i hi => by
  have := gn_le hW (show i < T 1 by omega)
  split <;> omega)
theorem k21L (hV : IsV M 34 T) (hW : WF T) : ∀ n r, r + n = T 1 → sw_WP d 21 4 [.ref 82, .ref 34, .int (nI (alW T r)), .int (nI r)] [] M Q = Q (some (.int (nI (alW T (T 1))))) M := by
  have w0 := hW.1
  have w1 := hW.2.1
  have hv := hV.1
  have h4 := hV.2.1.2.2.2.2
  intro n
  induction n with
  | zero =>
    intro r h
    obtain rfl : r = T 1 := by omega
    refine (s21_4 ..).trans ?_
    simp (disch := omega) only [s21_5, s21_6, s21_9, s21_12, s21_13, s21_14, s21_17, s21_18, s21_19, s21_21, s21_24, s21_25, s21_28, s21_30, s21_31, s21_32, s21_35, s21_38, s21_39, z_lt_t, z_lt_f, z_le_t, z_le_f, z_lt0, z_ge0, z_cl, z_in, z_add, z_eq_f, z_ne0, z_00, z_10, z_01, z_11, z_neg1, z_nI_NONE, z_div, z_rem, z_rem2, sw_pu_s, sw_pu_n, true_and, and_true, true_or, or_true, if_true, if_false, not_true_eq_false, not_false_eq_true, h4, hv]
  | succ n ih =>
    intro r h
    have := ih (r + 1) (by omega)
    have r5 := (hV.2.2.1 r (by omega)).2.2.2.2
    have y6 := (hW.2.2.2.2.2.1 r (by omega)).2.2.2.2.2
    rw [alW_s] at this
    refine (s21_4 ..).trans ?_
    by_cases e : T (37 + r) = 4
    · rw [if_pos e] at this
      simp (disch := omega) only [s21_5, s21_6, s21_9, s21_12, s21_13, s21_14, s21_17, s21_18, s21_19, s21_21, s21_24, s21_25, s21_28, s21_30, s21_31, s21_32, s21_35, z_lt_t, z_lt_f, z_le_t, z_le_f, z_lt0, z_ge0, z_cl, z_in, z_add, z_eq_f, z_ne0, z_00, z_10, z_01, z_11, z_neg1, z_nI_NONE, z_div, z_rem, z_rem2, sw_pu_s, sw_pu_n, true_and, and_true, true_or, or_true, if_true, if_false, not_true_eq_false, not_false_eq_true, h4, hv, r5, z_bn, e, z_mul]
      exact this
    · rw [if_neg e] at this
      simp (disch := omega) only [s21_5, s21_6, s21_9, s21_12, s21_13, s21_14, s21_17, s21_18, s21_19, s21_21, s21_24, s21_25, s21_28, s21_30, s21_31, s21_32, s21_35, z_lt_t, z_lt_f, z_le_t, z_le_f, z_lt0, z_ge0, z_cl, z_in, z_add, z_eq_f, z_ne0, z_00, z_10, z_01, z_11, z_neg1, z_nI_NONE, z_div, z_rem, z_rem2, sw_pu_s, sw_pu_n, true_and, and_true, true_or, or_true, if_true, if_false, not_true_eq_false, not_false_eq_true, h4, hv, r5, z_bn, e, z_mul]
      exact this
theorem k21 (hV : IsV M 34 T) (hW : WF T) : sw_Cal (d + 1) 21 [.ref 82, .ref 34] M Q = Q (some (.int (nI (alW T (T 1))))) M := by
  have := k21L (d := d) (Q := Q) hV hW (T 1) 0 (by omega)
  rw [c21]
  simp (disch := omega) only [s21_0, s21_1, s21_2, s21_3]
  exact this
theorem k22L (hV : IsV M 34 T) (hW : WF T) {s : Nat} (hs : s < 16) : ∀ n r, r + n = T 1 → sw_WP (d + 3) 22 4 [.ref 34, .int (nI s), .int (nI (gbT T s r)), .int (nI r)] [] M Q = Q (some (.int (nI (gbT T s (T 1))))) M := by
  have w1 := hW.2.1
  have hv := hV.1
  have h4 := hV.2.1.2.2.2.2
  intro n
  induction n with
  | zero =>
    intro r h
    obtain rfl : r = T 1 := by omega
    refine (s22_4 ..).trans ?_
    simp (disch := omega) only [s22_5, s22_6, s22_9, s22_12, s22_13, s22_14, s22_15, s22_18, s22_21, s22_22, s22_23, s22_26, s22_29, s22_30, s22_31, s22_32, s22_35, s22_38, s22_39, z_lt_t, z_lt_f, z_le_t, z_le_f, z_lt0, z_ge0, z_cl, z_in, z_add, z_eq_f, z_ne0, z_00, z_10, z_01, z_11, z_neg1, z_nI_NONE, z_div, z_rem, z_rem2, sw_pu_s, sw_pu_n, true_and, and_true, true_or, or_true, if_true, if_false, not_true_eq_false, not_false_eq_true, h4, hv]
  | succ n ih =>
    intro r h
    have := ih (r + 1) (by omega)
    have h24 := fun d Q => k24 (d := d) (M := M) (Q := Q) hs (show r < 4 by omega)
    have h68 := fun d Q => k68 (d := d) (Q := Q) hV hW (show r < T 1 by omega)
    have hl := gbT_le hW s (show r ≤ T 1 by omega)
    rw [gbT_s] at this
    refine (s22_4 ..).trans ?_
    by_cases e : bit s r = 1
    · have h24 := fun d Q => (h24 d Q).trans (if_pos e)
      rw [if_pos e] at this
      simp (disch := omega) only [s22_5, s22_6, s22_9, s22_12, s22_13, s22_14, s22_15, s22_18, s22_21, s22_22, s22_23, s22_26, s22_29, s22_30, s22_31, s22_32, s22_35, z_lt_t, z_lt_f, z_le_t, z_le_f, z_lt0, z_ge0, z_cl, z_in, z_add, z_eq_f, z_ne0, z_00, z_10, z_01, z_11, z_neg1, z_nI_NONE, z_div, z_rem, z_rem2, sw_pu_s, sw_pu_n, true_and, and_true, true_or, or_true, if_true, if_false, not_true_eq_false, not_false_eq_true, h4, hv, h24, h68]
      exact this
    · have h24 := fun d Q => (h24 d Q).trans (if_neg e)
      rw [if_neg e] at this
      simp (disch := omega) only [s22_5, s22_6, s22_9, s22_12, s22_13, s22_14, s22_15, s22_18, s22_21, s22_22, s22_23, s22_26, s22_29, s22_30, s22_31, s22_32, s22_35, z_lt_t, z_lt_f, z_le_t, z_le_f, z_lt0, z_ge0, z_cl, z_in, z_add, z_eq_f, z_ne0, z_00, z_10, z_01, z_11, z_neg1, z_nI_NONE, z_div, z_rem, z_rem2, sw_pu_s, sw_pu_n, true_and, and_true, true_or, or_true, if_true, if_false, not_true_eq_false, not_false_eq_true, h4, hv, h24]
      exact this
theorem k22 (hV : IsV M 34 T) (hW : WF T) {s : Nat} (hs : s < 16) : sw_Cal (d + 4) 22 [.ref 34, .int (nI s)] M Q = Q (some (.int (nI (gbT T s (T 1))))) M := by
  have := k22L (d := d) (Q := Q) hV hW hs (T 1) 0 (by omega)
  rw [c22]
  simp (disch := omega) only [s22_0, s22_1, s22_2, s22_3]
  exact this
end WYS
