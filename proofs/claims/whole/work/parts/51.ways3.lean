def enF (T : Tw) (q c s : Nat) : Nat := if q ≤ gbT T s (T 1) then wyC T s c (T 1) else 0
section WYU
variable {d : Nat} {M : sw_Mem} {T : Tw} {Q : Option Value → sw_Mem → Prop}
theorem p2_le {n : Nat} (h : n ≤ 4) : 2 ^ n ≤ 16 := by
  rcases (show n = 0 ∨ n = 1 ∨ n = 2 ∨ n = 3 ∨ n = 4 by omega) with rfl | rfl | rfl | rfl | rfl <;> decide
theorem enF_le {q c s : Nat} (hW : WF T) (hc : c ≤ 10) : enF T q c s ≤ 10000 := by
  have h1 := wyC_le (T := T) (s := s) hc (T 1)
  have h2 := p10_le (n := T 1) hW.2.1
  unfold enF
  split <;> omega
theorem k20L (hV : IsV M 34 T) (hW : WF T) {q c : Nat} (hq : q ≤ 999) (hc : c ≤ 10) : ∀ n s, s + n = 2 ^ T 1 → sw_WP (d + 4) 20 6 [.ref 82, .ref 34, .int (nI q), .int (nI c), .int (nI (sm (enF T q c) s)), .int (nI s)] [] M Q = Q (some (.int (nI (sm (enF T q c) (2 ^ T 1))))) M := by
  have w1 := hW.2.1
  have hv := hV.1
  have h4 := hV.2.1.2.2.2.2
  have hp := p2_le w1
  have hw := bit_pw (i := T 1) (by omega)
  intro n
  induction n with
  | zero =>
    intro s h
    obtain rfl : s = 2 ^ T 1 := by omega
    refine (s20_6 ..).trans ?_
    simp (disch := omega) only [s20_8, s20_9, s20_10, s20_13, s20_14, s20_17, s20_18, s20_20, s20_23, s20_24, s20_27, s20_29, s20_30, s20_32, s20_33, s20_36, s20_37, s20_39, s20_42, s20_45, s20_47, z_lt_t, z_lt_f, z_le_t, z_le_f, z_lt0, z_ge0, z_cl, z_in, z_add, z_eq_f, z_ne0, z_00, z_10, z_01, z_11, z_neg1, z_nI_NONE, z_div, z_rem, z_rem2, sw_pu_s, sw_pu_n, true_and, and_true, true_or, or_true, if_true, if_false, not_true_eq_false, not_false_eq_true, h4, hv, hw]
  | succ n ih =>
    intro s h
    have := ih (s + 1) (by omega)
    have h22 := fun d Q => k22 (d := d) (Q := Q) hV hW (show s < 16 by omega)
    have h23 := fun d Q => k23 (d := d) (Q := Q) hV hW (show s < 16 by omega) hc
    have hl : sm (enF T q c) s ≤ 10000 * s := sm_le (fun i _ => enF_le hW hc)
    have hg := gbT_le hW s (Nat.le_refl (T 1))
    rw [sm_s] at this
    unfold enF at this ⊢
    refine (s20_6 ..).trans ?_
    by_cases e : q ≤ gbT T s (T 1)
    · rw [if_pos e] at this
      simp (disch := omega) only [s20_8, s20_9, s20_10, s20_13, s20_14, s20_17, s20_18, s20_20, s20_23, s20_24, s20_27, s20_29, s20_30, s20_32, s20_33, s20_36, s20_37, s20_39, s20_42, z_lt_t, z_lt_f, z_le_t, z_le_f, z_lt0, z_ge0, z_cl, z_in, z_add, z_eq_f, z_ne0, z_00, z_10, z_01, z_11, z_neg1, z_nI_NONE, z_div, z_rem, z_rem2, sw_pu_s, sw_pu_n, true_and, and_true, true_or, or_true, if_true, if_false, not_true_eq_false, not_false_eq_true, h4, hv, hw, h22, h23]
      exact this
    · rw [if_neg e, Nat.add_zero] at this
      simp (disch := omega) only [s20_8, s20_9, s20_10, s20_13, s20_14, s20_17, s20_18, s20_20, s20_23, s20_24, s20_27, s20_29, s20_30, s20_32, s20_33, s20_36, s20_37, s20_39, s20_42, z_lt_t, z_lt_f, z_le_t, z_le_f, z_lt0, z_ge0, z_cl, z_in, z_add, z_eq_f, z_ne0, z_00, z_10, z_01, z_11, z_neg1, z_nI_NONE, z_div, z_rem, z_rem2, sw_pu_s, sw_pu_n, true_and, and_true, true_or, or_true, if_true, if_false, not_true_eq_false, not_false_eq_true, h4, hv, hw, h22]
      exact this
end WYU
