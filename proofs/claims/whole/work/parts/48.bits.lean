/-! sets of four, as numbers -/
def bit (s i : Nat) : Nat := s / 2 ^ i % 2
theorem bit_sh {s i : Nat} (hs : s < 16) (hi : i < 4) : (nI s >>> (nI i &&& 31)) &&& nI 1 = nI (bit s i) := by
  have : ∀ s, s < 16 → ∀ i, i < 4 → (nI s >>> (nI i &&& 31)) &&& nI 1 = nI (s / 2 ^ i % 2) := by decide +kernel
  exact this s hs i hi
theorem bit_or {s i : Nat} (hs : s < 16) (hi : i < 4) : nI s ||| (nI 1 <<< (nI i &&& 31)) = nI (if bit s i = 1 then s else s + 2 ^ i) := by
  have : ∀ s, s < 16 → ∀ i, i < 4 → nI s ||| (nI 1 <<< (nI i &&& 31)) = nI (if s / 2 ^ i % 2 = 1 then s else s + 2 ^ i) := by decide +kernel
  exact this s hs i hi
theorem bit_pw {i : Nat} (hi : i < 5) : nI 1 <<< (nI i &&& 31) = nI (2 ^ i) := by
  have : ∀ i, i < 5 → nI 1 <<< (nI i &&& 31) = nI (2 ^ i) := by decide +kernel
  exact this i hi
theorem bit_01 (s i : Nat) : bit s i = 0 ∨ bit s i = 1 := by
  unfold bit
  omega
section BIT
variable {d : Nat} {M : sw_Mem} {Q : Option Value → sw_Mem → Prop}
theorem k24 {s i : Nat} (hs : s < 16) (hi : i < 4) : sw_Cal (d + 1) 24 [.int (nI s), .int (nI i)] M Q = if bit s i = 1 then Q (some (.int (nI 1))) M else Q (some (.int (nI 0))) M := by
  have h := bit_sh hs hi
  rw [c24]
  rcases bit_01 s i with e | e <;> rw [e] at h ⊢
  · simp (disch := omega) only [s24_0, s24_1, s24_2, s24_3, s24_4, s24_5, s24_6, s24_9, s24_10, s24_13, s24_14, z_lt_t, z_lt_f, z_le_t, z_le_f, z_lt0, z_ge0, z_cl, z_in, z_add, z_eq_f, z_ne0, z_00, z_10, z_01, z_11, z_neg1, z_nI_NONE, z_div, z_rem, z_rem2, sw_pu_s, sw_pu_n, true_and, and_true, true_or, or_true, if_true, if_false, not_true_eq_false, not_false_eq_true, h, show ¬ (0 = 1) by decide]
  · simp (disch := omega) only [s24_0, s24_1, s24_2, s24_3, s24_4, s24_5, s24_6, s24_9, s24_10, s24_13, s24_14, z_lt_t, z_lt_f, z_le_t, z_le_f, z_lt0, z_ge0, z_cl, z_in, z_add, z_eq_f, z_ne0, z_00, z_10, z_01, z_11, z_neg1, z_nI_NONE, z_div, z_rem, z_rem2, sw_pu_s, sw_pu_n, true_and, and_true, true_or, or_true, if_true, if_false, not_true_eq_false, not_false_eq_true, h]
theorem k130 {s i : Nat} (hs : s < 16) (hi : i < 4) : sw_Cal (d + 1) 130 [.int (nI s), .int (nI i)] M Q = if bit s i = 1 then Q (some (.int (nI 1))) M else Q (some (.int (nI 0))) M := by
  have h := bit_sh hs hi
  rw [c130]
  rcases bit_01 s i with e | e <;> rw [e] at h ⊢
  · simp (disch := omega) only [s130_0, s130_1, s130_2, s130_3, s130_4, s130_5, s130_6, s130_9, s130_10, s130_13, s130_14, z_lt_t, z_lt_f, z_le_t, z_le_f, z_lt0, z_ge0, z_cl, z_in, z_add, z_eq_f, z_ne0, z_00, z_10, z_01, z_11, z_neg1, z_nI_NONE, z_div, z_rem, z_rem2, sw_pu_s, sw_pu_n, true_and, and_true, true_or, or_true, if_true, if_false, not_true_eq_false, not_false_eq_true, h, show ¬ (0 = 1) by decide]
  · simp (disch := omega) only [s130_0, s130_1, s130_2, s130_3, s130_4, s130_5, s130_6, s130_9, s130_10, s130_13, s130_14, z_lt_t, z_lt_f, z_le_t, z_le_f, z_lt0, z_ge0, z_cl, z_in, z_add, z_eq_f, z_ne0, z_00, z_10, z_01, z_11, z_neg1, z_nI_NONE, z_div, z_rem, z_rem2, sw_pu_s, sw_pu_n, true_and, and_true, true_or, or_true, if_true, if_false, not_true_eq_false, not_false_eq_true, h]
/-- the common divisor -/
theorem z_mx1 {b : Nat} (h : 0 < b) (hb : b < 2 ^ 30) : (if nI 1 < nI b then nI b else nI 1) = nI b := by
  by_cases e : b = 1
  · subst e
    exact if_neg (by decide)
  · exact if_pos (nI_lt (by omega) (by omega))
theorem k25L : ∀ n i a b (x2 x3 : Int32) (u : Value), i + n = 64 → a < 2 ^ 20 → b < 2 ^ 20 → 0 < b → a * b < 2 ^ n → a ≤ b → sw_WP d 25 7 [.int x2, .int x3, .int (nI a), .int (nI b), .int (nI i), u] [] M Q = Q (some (.int (nI (Nat.gcd a b)))) M := by
  intro n
  induction n with
  | zero =>
    intro i a b x2 x3 u h ha hb hb0 hab hlt
    have e : a = 0 := by
      rcases Nat.eq_zero_or_pos a with q | q
      · exact q
      · have := Nat.mul_pos q hb0
        omega
    obtain rfl : i = 64 := by omega
    subst e
    rw [Nat.gcd_zero_left]
    refine (s25_7 ..).trans ?_
    simp (disch := omega) only [s25_9, s25_11, s25_14, s25_15, s25_18, s25_19, s25_20, s25_21, s25_23, s25_24, s25_25, s25_27, s25_28, s25_31, s25_34, s25_35, s25_36, s25_39, z_lt_t, z_lt_f, z_le_t, z_le_f, z_lt0, z_ge0, z_cl, z_in, z_add, z_eq_f, z_ne0, z_00, z_10, z_01, z_11, z_neg1, z_nI_NONE, z_div, z_rem, z_rem2, sw_pu_s, sw_pu_n, true_and, and_true, true_or, or_true, if_true, if_false, not_true_eq_false, not_false_eq_true, z_mx1]
  | succ n ih =>
    intro i a b x2 x3 u h ha hb hb0 hab hlt
    refine (s25_7 ..).trans ?_
    by_cases e : a = 0
    · subst e
      rw [Nat.gcd_zero_left]
      simp (disch := omega) only [s25_9, s25_11, s25_14, s25_15, s25_18, s25_19, s25_20, s25_21, s25_23, s25_24, s25_25, s25_27, s25_28, s25_31, s25_34, s25_35, s25_36, s25_39, z_lt_t, z_lt_f, z_le_t, z_le_f, z_lt0, z_ge0, z_cl, z_in, z_add, z_eq_f, z_ne0, z_00, z_10, z_01, z_11, z_neg1, z_nI_NONE, z_div, z_rem, z_rem2, sw_pu_s, sw_pu_n, true_and, and_true, true_or, or_true, if_true, if_false, not_true_eq_false, not_false_eq_true, z_mx1]
    · have h1 := Nat.mod_lt b (show 0 < a by omega)
      have h2 : b % a + a ≤ b := by
        have := Nat.div_add_mod b a
        have h3 : 1 ≤ b / a := (Nat.one_le_div_iff (by omega)).mpr (by omega)
        have h4 : a * 1 ≤ a * (b / a) := Nat.mul_le_mul_left a h3
        omega
      have h5 : 2 * (b % a) * a ≤ b * a := Nat.mul_le_mul_right a (by omega)
      have h6 : 2 * (b % a) * a = 2 * (b % a * a) := Nat.mul_assoc _ _ _
      have h7 : b * a = a * b := Nat.mul_comm _ _
      have := ih (i + 1) (b % a) a x2 x3 (.int (nI (b % a))) (by omega) (by omega) ha (by omega) (by rw [Nat.pow_succ] at hab; omega) (by omega)
      rw [Nat.gcd_rec]
      simp (disch := omega) only [s25_9, s25_11, s25_14, s25_15, s25_18, s25_19, s25_20, s25_21, s25_23, s25_24, s25_25, s25_27, s25_28, s25_31, z_lt_t, z_lt_f, z_le_t, z_le_f, z_lt0, z_ge0, z_cl, z_in, z_add, z_eq_f, z_ne0, z_00, z_10, z_01, z_11, z_neg1, z_nI_NONE, z_div, z_rem, z_rem2, sw_pu_s, sw_pu_n, true_and, and_true, true_or, or_true, if_true, if_false, not_true_eq_false, not_false_eq_true]
      exact this
theorem k25 {a b : Nat} (ha : a < 2 ^ 20) (hb : b < 2 ^ 20) (hb0 : 0 < b) (h : a ≤ b) : sw_Cal (d + 1) 25 [.int (nI a), .int (nI b)] M Q = Q (some (.int (nI (Nat.gcd a b)))) M := by
  have hm : a * b < 2 ^ 64 := by
    have h1 : a * b ≤ 2 ^ 20 * 2 ^ 20 := Nat.mul_le_mul (by omega) (by omega)
    omega
  have := k25L (d := d) (M := M) (Q := Q) 64 0 a b (nI a) (nI b) sw_U rfl ha hb hb0 hm h
  rw [c25]
  simp (disch := omega) only [s25_0, s25_1, s25_2, s25_3, s25_4, s25_5]
  exact this
end BIT
