def mwF (T : Tw) (q c s : Nat) : Nat := if q ≤ gbM T s (T 1) then wyM s c (T 1) else 0
section WYX
variable {d : Nat} {N : sw_Mem} {T : Tw} {Q : Option Value → sw_Mem → Prop}
theorem mwF_le {q c s : Nat} (hW : WF T) (hc : c ≤ 10) : mwF T q c s ≤ 10000 := by
  have h1 := wyM_le (s := s) hc (T 1)
  have h2 := p10_le (n := T 1) hW.2.1
  unfold mwF
  split <;> omega
theorem k201o (hM : IsM N 0 T) (hW : WF T) {q c : Nat} (hq : q ≤ 999) (hc : c ≤ 10) (x3 : Int32) : ∀ n s (x7 x8 x9 : Value), s + n = 2 ^ T 1 → ∃ y7 y8 y9 : Value, sw_WP (d + 4) 201 56 [.ref 0, .int (nI q), .int (nI c), .int x3, .int (nI (sm (mwF T q c) s)), .int (nI (sm (fun s => wyM s c (T 1)) s)), .int (nI s), x7, x8, x9] [] N Q = sw_WP (d + 4) 201 174 [.ref 0, .int (nI q), .int (nI c), .int x3, .int (nI (sm (mwF T q c) (2 ^ T 1))), .int (nI (sm (fun s => wyM s c (T 1)) (2 ^ T 1))), .int (nI (2 ^ T 1)), y7, y8, y9] [] N Q := by
  have w1 := hW.2.1
  have m1 := hM.z 1 (by omega)
  have hp := p2_le w1
  have hw := bit_pw (i := T 1) (by omega)
  intro n
  induction n with
  | zero =>
    intro s x7 x8 x9 h
    obtain rfl : s = 2 ^ T 1 := by omega
    refine ⟨x7, x8, x9, ?_⟩
    refine (s201_56 ..).trans ?_
    simp (disch := omega) only [s201_58, s201_59, s201_60, s201_63, s201_64, s201_65, s201_66, z_lt_t, z_lt_f, z_le_t, z_le_f, z_lt0, z_ge0, z_cl, z_in, z_add, z_eq_f, z_ne0, z_00, z_10, z_01, z_11, z_neg1, z_nI_NONE, z_div, z_rem, z_rem2, sw_pu_s, sw_pu_n, true_and, and_true, true_or, or_true, if_true, if_false, not_true_eq_false, not_false_eq_true, m1, hw]
  | succ n ih =>
    intro s x7 x8 x9 h
    obtain ⟨y7, y8, y9, this⟩ := ih (s + 1) (.int (nI (wyM s c (T 1)))) (.int (nI (gbM T s (T 1)))) (.int (nI (T 1))) (by omega)
    refine ⟨y7, y8, y9, ?_⟩
    have hi := k201i (d := d + 1) (Q := Q) hM hW (show s < 16 by omega) hc (nI q) x3 (nI (sm (mwF T q c) s)) (nI (sm (fun s => wyM s c (T 1)) s)) (T 1) 0 (by omega)
    have hl : sm (mwF T q c) s ≤ 10000 * s := sm_le (fun i _ => mwF_le hW hc)
    have hg := gbM_le hW s (Nat.le_refl (T 1))
    rw [sm_s, sm_s] at this
    rw [← this]
    refine (s201_56 ..).trans ?_
    simp (disch := omega) only [s201_58, s201_59, s201_60, s201_63, s201_64, s201_65, s201_66, s201_69, s201_70, s201_72, s201_73, s201_75, s201_76, z_lt_t, z_lt_f, z_le_t, z_le_f, z_lt0, z_ge0, z_cl, z_in, z_add, z_eq_f, z_ne0, z_00, z_10, z_01, z_11, z_neg1, z_nI_NONE, z_div, z_rem, z_rem2, sw_pu_s, sw_pu_n, true_and, and_true, true_or, or_true, if_true, if_false, not_true_eq_false, not_false_eq_true, m1, hw]
    refine hi.trans ?_
    unfold mwF
    by_cases e : q ≤ gbM T s (T 1)
    · rw [if_pos e]
      simp (disch := omega) only [s201_144, s201_146, s201_148, s201_149, s201_152, s201_154, s201_157, s201_158, s201_159, s201_161, s201_163, s201_165, s201_166, s201_168, s201_171, z_lt_t, z_lt_f, z_le_t, z_le_f, z_lt0, z_ge0, z_cl, z_in, z_add, z_eq_f, z_ne0, z_00, z_10, z_01, z_11, z_neg1, z_nI_NONE, z_div, z_rem, z_rem2, sw_pu_s, sw_pu_n, true_and, and_true, true_or, or_true, if_true, if_false, not_true_eq_false, not_false_eq_true]
    · rw [if_neg e]
      simp (disch := omega) only [s201_144, s201_146, s201_148, s201_149, s201_152, s201_154, s201_157, s201_158, s201_159, s201_161, s201_163, s201_165, s201_166, s201_168, s201_171, z_lt_t, z_lt_f, z_le_t, z_le_f, z_lt0, z_ge0, z_cl, z_in, z_add, z_eq_f, z_ne0, z_00, z_10, z_01, z_11, z_neg1, z_nI_NONE, z_div, z_rem, z_rem2, sw_pu_s, sw_pu_n, true_and, and_true, true_or, or_true, if_true, if_false, not_true_eq_false, not_false_eq_true]
theorem k201g (x1 x2 : Int32) {w a b : Nat} (hw : w < 2) (ha : a < 2 ^ 20) (hb : b < 2 ^ 20) : ∀ n x y (x8 x9 : Value), y < n → x < 2 ^ 20 → y < 2 ^ 20 → 0 < Nat.gcd x y → sw_WP d 201 182 [.ref 0, .int x1, .int x2, .int (nI w), .int (nI a), .int (nI b), .int (nI x), .int (nI y), x8, x9] [] N Q = Q (some (.int (nI ((if w = 0 then a else b) / Nat.gcd x y)))) N := by
  intro n
  induction n with
  | zero => intro x y x8 x9 h; exact absurd h (Nat.not_lt_zero _)
  | succ n ih =>
    intro x y x8 x9 h hx hy hg
    refine (s201_182 ..).trans ?_
    by_cases e : y = 0
    · subst e
      rw [Nat.gcd_zero_right] at hg ⊢
      by_cases e2 : w = 0
      · simp (disch := omega) only [s201_184, s201_187, s201_189, s201_191, s201_192, s201_194, s201_196, s201_198, s201_200, s201_202, s201_205, s201_206, s201_209, s201_211, s201_213, s201_214, s201_217, s201_219, s201_221, s201_222, z_lt_t, z_lt_f, z_le_t, z_le_f, z_lt0, z_ge0, z_cl, z_in, z_add, z_eq_f, z_ne0, z_00, z_10, z_01, z_11, z_neg1, z_nI_NONE, z_div, z_rem, z_rem2, sw_pu_s, sw_pu_n, true_and, and_true, true_or, or_true, if_true, if_false, not_true_eq_false, not_false_eq_true, e2]
      · simp (disch := omega) only [s201_184, s201_187, s201_189, s201_191, s201_192, s201_194, s201_196, s201_198, s201_200, s201_202, s201_205, s201_206, s201_209, s201_211, s201_213, s201_214, s201_217, s201_219, s201_221, s201_222, z_lt_t, z_lt_f, z_le_t, z_le_f, z_lt0, z_ge0, z_cl, z_in, z_add, z_eq_f, z_ne0, z_00, z_10, z_01, z_11, z_neg1, z_nI_NONE, z_div, z_rem, z_rem2, sw_pu_s, sw_pu_n, true_and, and_true, true_or, or_true, if_true, if_false, not_true_eq_false, not_false_eq_true, e2]
    · have h1 := Nat.mod_lt x (show 0 < y by omega)
      have hr : Nat.gcd x y = Nat.gcd y (x % y) := by
        rw [Nat.gcd_comm x y, Nat.gcd_rec, Nat.gcd_comm]
      rw [hr] at hg ⊢
      have := ih y (x % y) (.int (nI (x % y))) x9 (by omega) hy (by omega) hg
      simp (disch := omega) only [s201_184, s201_187, s201_189, s201_191, s201_192, s201_194, s201_196, s201_198, s201_200, s201_202, z_lt_t, z_lt_f, z_le_t, z_le_f, z_lt0, z_ge0, z_cl, z_in, z_add, z_eq_f, z_ne0, z_00, z_10, z_01, z_11, z_neg1, z_nI_NONE, z_div, z_rem, z_rem2, sw_pu_s, sw_pu_n, true_and, and_true, true_or, or_true, if_true, if_false, not_true_eq_false, not_false_eq_true]
      exact this
end WYX
