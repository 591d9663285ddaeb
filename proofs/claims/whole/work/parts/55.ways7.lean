section WYW
variable {d : Nat} {N : sw_Mem} {T : Tw} {Q : Option Value → sw_Mem → Prop}
theorem wyM_le {s c : Nat} (hc : c ≤ 10) : ∀ n, wyM s c n ≤ 10 ^ n := by
  intro n
  induction n with
  | zero => exact Nat.le_refl 1
  | succ n ih =>
    rw [wyM_s, Nat.pow_succ]
    exact Nat.mul_le_mul ih (by split <;> omega)
theorem gbM_le (hW : WF T) (s : Nat) {n : Nat} (hn : n ≤ T 1) : gbM T s n ≤ 36 * n := sm_le (fun i hi => by
  have := gn_le hW (show i < T 1 by omega)
  split <;> omega)
theorem k201i (hM : IsM N 0 T) (hW : WF T) {s c : Nat} (hs : s < 16) (hc : c ≤ 10) (x1 x3 x4 x5 : Int32) : ∀ n r, r + n = T 1 → sw_WP (d + 3) 201 78 [.ref 0, .int x1, .int (nI c), .int x3, .int x4, .int x5, .int (nI s), .int (nI (wyM s c r)), .int (nI (gbM T s r)), .int (nI r)] [] N Q = sw_WP (d + 3) 201 144 [.ref 0, .int x1, .int (nI c), .int x3, .int x4, .int x5, .int (nI s), .int (nI (wyM s c (T 1))), .int (nI (gbM T s (T 1))), .int (nI (T 1))] [] N Q := by
  have w1 := hW.2.1
  have m1 := hM.z 1 (by omega)
  intro n
  induction n with
  | zero =>
    intro r h
    obtain rfl : r = T 1 := by omega
    refine (s201_78 ..).trans ?_
    simp (disch := omega) only [s201_80, s201_81, s201_84, s201_85, s201_86, s201_89, s201_91, s201_93, s201_95, s201_98, s201_101, s201_102, s201_105, s201_107, s201_108, s201_109, s201_110, s201_112, s201_114, s201_116, s201_118, s201_121, s201_124, s201_125, s201_128, s201_129, s201_130, s201_132, s201_135, s201_136, s201_138, s201_141, z_lt_t, z_lt_f, z_le_t, z_le_f, z_lt0, z_ge0, z_cl, z_in, z_add, z_eq_f, z_ne0, z_00, z_10, z_01, z_11, z_neg1, z_nI_NONE, z_div, z_rem, z_rem2, sw_pu_s, sw_pu_n, true_and, and_true, true_or, or_true, if_true, if_false, not_true_eq_false, not_false_eq_true, m1]
  | succ n ih =>
    intro r h
    have := ih (r + 1) (by omega)
    have h130 := fun d Q => k130 (d := d) (M := N) (Q := Q) hs (show r < 4 by omega)
    have h164 := fun d Q => k164 (d := d) (Q := Q) hM (by omega) hW (show r < T 1 by omega)
    have hl := gbM_le hW s (show r ≤ T 1 by omega)
    rw [gbM_s, wyM_s] at this
    refine (s201_78 ..).trans ?_
    by_cases e : bit s r = 1
    · have h130 := fun d Q => (h130 d Q).trans (if_pos e)
      rw [if_pos e, if_pos e] at this
      simp (disch := omega) only [s201_80, s201_81, s201_84, s201_85, s201_86, s201_89, s201_91, s201_93, s201_95, s201_98, s201_101, s201_102, s201_105, s201_107, s201_108, s201_109, s201_110, s201_112, s201_114, s201_116, s201_118, s201_121, s201_124, s201_125, s201_128, s201_129, s201_130, s201_132, s201_135, s201_136, s201_138, s201_141, z_lt_t, z_lt_f, z_le_t, z_le_f, z_lt0, z_ge0, z_cl, z_in, z_add, z_eq_f, z_ne0, z_00, z_10, z_01, z_11, z_neg1, z_nI_NONE, z_div, z_rem, z_rem2, sw_pu_s, sw_pu_n, true_and, and_true, true_or, or_true, if_true, if_false, not_true_eq_false, not_false_eq_true, m1, h130, z_mul]
      exact this
    · have h130 := fun d Q => (h130 d Q).trans (if_neg e)
      rw [if_neg e, if_neg e] at this
      simp (disch := omega) only [s201_80, s201_81, s201_84, s201_85, s201_86, s201_89, s201_91, s201_93, s201_95, s201_98, s201_101, s201_102, s201_105, s201_107, s201_108, s201_109, s201_110, s201_112, s201_114, s201_116, s201_118, s201_121, s201_124, s201_125, s201_128, s201_129, s201_130, s201_132, s201_135, s201_136, s201_138, s201_141, z_lt_t, z_lt_f, z_le_t, z_le_f, z_lt0, z_ge0, z_cl, z_in, z_add, z_eq_f, z_ne0, z_00, z_10, z_01, z_11, z_neg1, z_nI_NONE, z_div, z_rem, z_rem2, sw_pu_s, sw_pu_n, true_and, and_true, true_or, or_true, if_true, if_false, not_true_eq_false, not_false_eq_true, m1, h130, h164, z_mul, z_sub]
      exact this
end WYW
