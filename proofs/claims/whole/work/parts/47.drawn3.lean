section DRY
variable {T S : Tw} {I : Nat → Tw} {π : Ps} {ρ : Rw} {τ : Tp} {ft sv : Int32} {θ : Tc} {M N : sw_Mem} {d c m v : Nat} {as : List Value} {Q : Option Value → sw_Mem → Prop}
theorem k202D (hM : IsM N 0 S) (hV : IsM N 1107 T) (hW : WF T) (h0 : 0 < T 0) (e0 : S 0 = T 0) (e1 : S 1 = T 1) {y : Int64} (hy : okd y) (x1 x2 x3 x6 x7 : Int32) : ∃ N', IsM N' 1107 (dqT T y) ∧ sM N N' ∧ ∀ Q, sw_WP d 202 79 [.ref 0, .int x1, .int x2, .int x3, .long y, sw_U, .int x6, .int x7, sw_U] [] N Q = sw_WP d 202 157 [.ref 0, .int x1, .int x2, .int x3, .long y, sw_U, .int x6, .int x7, sw_U] [] N' Q := by
  have w0 := hW.1
  have w1 := hW.2.1
  have m0 := hM.z 0 (by omega)
  have m1 := hM.z 1 (by omega)
  rw [e0] at m0
  rw [e1] at m1
  have c0 := q_cmp0 hy (a := 0) (by omega)
  have c1 := q_cmp0 hy (a := 1) (by omega)
  have z3 : (lN 3 = 0) = False := eq_false (by decide)
  have hj0 := jr_lt (y := y) h0
  by_cases a : y.toInt % 3 = 0
  · by_cases b : 0 < T 1
    · have hj := jr_lt (y := y) b
      refine ⟨sw_up N 1 (1136 + jr y (T 1)) (nI 9), ?_, sM.rf.up1 (by omega), fun Q => ?_⟩
      · have := IsM.up hV (29 + jr y (T 1)) 9
        unfold dqT drT stP
        rw [if_pos ⟨a, b⟩, if_pos (by omega), show 1136 + jr y (T 1) = 1107 + (29 + jr y (T 1)) by omega]
        exact this
      · simp (disch := omega) only [s202_79, s202_81, s202_84, s202_85, s202_86, s202_87, s202_90, s202_91, s202_94, s202_95, s202_96, s202_99, s202_100, s202_103, s202_106, s202_108, s202_109, s202_112, s202_113, s202_114, s202_115, s202_116, s202_117, s202_118, s202_120, s202_121, s202_124, s202_126, s202_129, s202_130, s202_131, s202_132, s202_135, s202_136, s202_139, s202_142, s202_144, s202_145, s202_148, s202_149, s202_150, s202_151, s202_152, s202_153, s202_154, s202_156, z_lt_t, z_lt_f, z_le_t, z_le_f, z_lt0, z_ge0, z_cl, z_in, z_add, z_eq_f, z_ne0, z_00, z_10, z_01, z_11, z_neg1, z_nI_NONE, z_div, z_rem, z_rem2, sw_pu_s, sw_pu_n, true_and, and_true, true_or, or_true, if_true, if_false, not_true_eq_false, not_false_eq_true, z3, c0, c1, m1, q_n0, q_kz, q_idx hy.1, ↓if_pos, ↓if_neg]
    · refine ⟨N, ?_, sM.rf, fun Q => ?_⟩
      · unfold dqT
        rw [if_neg (by omega), if_neg (by omega)]
        exact hV
      · simp (disch := omega) only [s202_79, s202_81, s202_84, s202_85, s202_86, s202_87, s202_90, s202_91, s202_94, s202_95, s202_96, s202_99, s202_100, s202_103, s202_106, s202_108, s202_109, s202_112, s202_113, s202_114, s202_115, s202_116, s202_117, s202_118, s202_120, s202_121, s202_124, s202_126, s202_129, s202_130, s202_131, s202_132, s202_135, s202_136, s202_139, s202_142, s202_144, s202_145, s202_148, s202_149, s202_150, s202_151, s202_152, s202_153, s202_154, s202_156, z_lt_t, z_lt_f, z_le_t, z_le_f, z_lt0, z_ge0, z_cl, z_in, z_add, z_eq_f, z_ne0, z_00, z_10, z_01, z_11, z_neg1, z_nI_NONE, z_div, z_rem, z_rem2, sw_pu_s, sw_pu_n, true_and, and_true, true_or, or_true, if_true, if_false, not_true_eq_false, not_false_eq_true, z3, c0, c1, m1, q_n0, ↓if_pos, ↓if_neg]
  · by_cases b : y.toInt % 3 = 1
    · refine ⟨sw_up N 1 (1116 + jr y (T 0)) (nI 9), ?_, sM.rf.up1 (by omega), fun Q => ?_⟩
      · have := IsM.up hV (9 + jr y (T 0)) 9
        unfold dqT drT stP
        rw [if_neg (by omega), if_pos b, if_neg (by omega), show 5 + (4 + jr y (T 0)) = 9 + jr y (T 0) by omega, show 1116 + jr y (T 0) = 1107 + (9 + jr y (T 0)) by omega]
        exact this
      · simp (disch := omega) only [s202_79, s202_81, s202_84, s202_85, s202_86, s202_87, s202_90, s202_91, s202_94, s202_95, s202_96, s202_99, s202_100, s202_103, s202_106, s202_108, s202_109, s202_112, s202_113, s202_114, s202_115, s202_116, s202_117, s202_118, s202_120, s202_121, s202_124, s202_126, s202_129, s202_130, s202_131, s202_132, s202_135, s202_136, s202_139, s202_142, s202_144, s202_145, s202_148, s202_149, s202_150, s202_151, s202_152, s202_153, s202_154, s202_156, z_lt_t, z_lt_f, z_le_t, z_le_f, z_lt0, z_ge0, z_cl, z_in, z_add, z_eq_f, z_ne0, z_00, z_10, z_01, z_11, z_neg1, z_nI_NONE, z_div, z_rem, z_rem2, sw_pu_s, sw_pu_n, true_and, and_true, true_or, or_true, if_true, if_false, not_true_eq_false, not_false_eq_true, z3, c0, c1, m0, q_n0, q_kz, q_idx hy.1, ↓if_pos, ↓if_neg]
    · refine ⟨N, ?_, sM.rf, fun Q => ?_⟩
      · unfold dqT
        rw [if_neg (by omega), if_neg b]
        exact hV
      · simp (disch := omega) only [s202_79, s202_81, s202_84, s202_85, s202_86, s202_87, s202_90, s202_91, s202_94, s202_95, s202_96, s202_99, s202_100, s202_103, s202_106, s202_108, s202_109, s202_112, s202_113, s202_114, s202_115, s202_116, s202_117, s202_118, s202_120, s202_121, s202_124, s202_126, s202_129, s202_130, s202_131, s202_132, s202_135, s202_136, s202_139, s202_142, s202_144, s202_145, s202_148, s202_149, s202_150, s202_151, s202_152, s202_153, s202_154, s202_156, z_lt_t, z_lt_f, z_le_t, z_le_f, z_lt0, z_ge0, z_cl, z_in, z_add, z_eq_f, z_ne0, z_00, z_10, z_01, z_11, z_neg1, z_nI_NONE, z_div, z_rem, z_rem2, sw_pu_s, sw_pu_n, true_and, and_true, true_or, or_true, if_true, if_false, not_true_eq_false, not_false_eq_true, z3, c0, c1, ↓if_pos, ↓if_neg]
theorem k202L {K : Nat} (hK : K ≤ 60) (x2 x3 : Int32) : ∀ n i acc F (N : sw_Mem) (T : Tw) (y : Int64), i + n = K → acc ≤ 144 * i → IsM N 0 S → S 0 = T 0 → S 1 = T 1 → 0 < T 2 → IsM N 1107 T → WF T → 0 < T 0 → FB T F → F + 36 * n ≤ 1000000 → T 4 + n ≤ 2000 → okd y →
    ∃ N' y', IsM N' 1107 (dwX nxd n T y) ∧ sM N N' ∧ ∀ Q, sw_WP (d + 4) 202 61 [.ref 0, .int (nI K), .int x2, .int x3, .long y, sw_U, .int (nI acc), .int (nI i), sw_U] [] N Q = sw_WP (d + 4) 202 175 [.ref 0, .int (nI K), .int x2, .int x3, .long y', sw_U, .int (nI (acc + dwH nxd n T y)), .int (nI K), sw_U] [] N' Q := by
  intro n
  induction n with
  | zero =>
    intro i acc F N T y h hacc hM e0 e1 hL hV hW h0 hF hFF h4 hy
    obtain rfl : i = K := by omega
    rw [dwX_0]
    refine ⟨N, y, hV, sM.rf, fun Q => ?_⟩
    refine (s202_61 ..).trans ?_
    simp (disch := omega) only [s202_63, s202_64, z_lt_t, z_lt_f, z_le_t, z_le_f, z_lt0, z_ge0, z_cl, z_in, z_add, z_eq_f, z_ne0, z_00, z_10, z_01, z_11, z_neg1, z_nI_NONE, z_div, z_rem, z_rem2, sw_pu_s, sw_pu_n, true_and, and_true, true_or, or_true, if_true, if_false, not_true_eq_false, not_false_eq_true, dwH_0, Nat.add_zero]
  | succ n ih =>
    intro i acc F N T y h hacc hM e0 e1 hL hV hW h0 hF hFF h4 hy
    have w0 := hW.1
    have w1 := hW.2.1
    have hn := nxd_ok hy
    obtain ⟨N1, a1, a2, a3⟩ := k202D (d := d + 4) hM hV hW h0 e0 e1 hn (nI K) x2 x3 (nI acc) (nI i)
    have hWq := WF_dq (y := nxd y) hW h0
    have e4 : dqT T (nxd y) 4 = T 4 := dqT_o w0 h0 w1 (by omega)
    have e2 : dqT T (nxd y) 2 = T 2 := dqT_o w0 h0 w1 (by omega)
    obtain ⟨N2, b1, b2, b3⟩ := k165 (d := d + 1) a1 hWq (by rw [e2]; exact hL) (FB_dq hF w0 w1 h0) (by omega) (by omega)
    have hg := gsT_le hWq
    obtain ⟨q0, q1, q2, q4⟩ := dq_0 w0 h0 w1 (nxd y)
    have s2 := a2.tr (sM.ofm b2)
    have hM2 : IsM N2 0 S := IsM_c hM (fun j _ _ => s2.2 j (by omega))
    obtain ⟨N3, y', c1, c2, c3⟩ := ih (i + 1) (acc + gsT (dqT T (nxd y))) (F + 36) N2 (psT (dqT T (nxd y))) (nxd y) (by omega) (by omega) hM2 (by rw [q0]; exact e0) (by rw [q1]; exact e1) (by rw [q2]; exact hL) b1 (WF_ps hWq (by omega)) (by rw [q0]; exact h0) (FB_ps hWq (FB_dq hF w0 w1 h0)) (by omega) (by rw [q4]; omega) hn
    rw [dwX_s]
    refine ⟨N3, y', c1, s2.tr c2, fun Q => ?_⟩
    rw [dwH_s, ← Nat.add_assoc, ← c3 Q]
    have z3 : (lN 2147483647 = 0) = False := eq_false (by decide)
    have en : y * lN 16807 - y * lN 16807 / lN 2147483647 * lN 2147483647 = nxd y := by rw [nxd]
    refine (s202_61 ..).trans ?_
    simp (disch := omega) only [s202_63, s202_64, s202_67, s202_69, s202_72, s202_73, s202_76, s202_77, z_lt_t, z_lt_f, z_le_t, z_le_f, z_lt0, z_ge0, z_cl, z_in, z_add, z_eq_f, z_ne0, z_00, z_10, z_01, z_11, z_neg1, z_nI_NONE, z_div, z_rem, z_rem2, sw_pu_s, sw_pu_n, true_and, and_true, true_or, or_true, if_true, if_false, not_true_eq_false, not_false_eq_true, z3, en]
    rw [a3]
    simp (disch := omega) only [s202_157, s202_159, s202_160, s202_163, s202_166, s202_167, s202_169, s202_172, z_lt_t, z_lt_f, z_le_t, z_le_f, z_lt0, z_ge0, z_cl, z_in, z_add, z_eq_f, z_ne0, z_00, z_10, z_01, z_11, z_neg1, z_nI_NONE, z_div, z_rem, z_rem2, sw_pu_s, sw_pu_n, true_and, and_true, true_or, or_true, if_true, if_false, not_true_eq_false, not_false_eq_true, b3]
theorem k202F (hM : IsM N 0 S) (hV : IsM N 1107 T) (hW : WF T) (e0 : S 0 = T 0) (e1 : S 1 = T 1) (x1 x2 x3 x6 : Int32) (y : Int64) : ∀ n i, i + n = 4 → sw_WP d 202 181 [.ref 0, .int x1, .int x2, .int x3, .long y, sw_U, .int x6, .int (nI (sm (fun k => fuT T k + fuT T (4 + k)) i)), .int (nI i)] [] N Q = (if x3 = 0 then Q (some (.int x6)) N else Q (some (.int (nI (sm (fuT T) 8)))) N) := by
  have w0 := hW.1
  have w1 := hW.2.1
  have m0 := hM.z 0 (by omega)
  have m1 := hM.z 1 (by omega)
  rw [e0] at m0
  rw [e1] at m1
  intro n
  induction n with
  | zero =>
    intro i h
    obtain rfl : i = 4 := by omega
    rw [fu_84]
    refine (s202_181 ..).trans ?_
    by_cases c : x3 = 0
    · rw [if_pos c]
      simp (disch := omega) only [s202_183, s202_184, s202_187, s202_189, s202_191, s202_192, s202_195, s202_196, s202_197, s202_200, s202_201, s202_204, s202_207, s202_209, s202_210, s202_211, s202_214, s202_215, s202_217, s202_218, s202_221, s202_222, s202_223, s202_226, s202_227, s202_230, s202_233, s202_235, s202_236, s202_237, s202_240, s202_241, s202_242, s202_243, s202_245, s202_248, s202_251, s202_252, s202_255, s202_257, s202_260, s202_262, z_lt_t, z_lt_f, z_le_t, z_le_f, z_lt0, z_ge0, z_cl, z_in, z_add, z_eq_f, z_ne0, z_00, z_10, z_01, z_11, z_neg1, z_nI_NONE, z_div, z_rem, z_rem2, sw_pu_s, sw_pu_n, true_and, and_true, true_or, or_true, if_true, if_false, not_true_eq_false, not_false_eq_true, c]
    · rw [if_neg c]
      simp (disch := omega) only [s202_183, s202_184, s202_187, s202_189, s202_191, s202_192, s202_195, s202_196, s202_197, s202_200, s202_201, s202_204, s202_207, s202_209, s202_210, s202_211, s202_214, s202_215, s202_217, s202_218, s202_221, s202_222, s202_223, s202_226, s202_227, s202_230, s202_233, s202_235, s202_236, s202_237, s202_240, s202_241, s202_242, s202_243, s202_245, s202_248, s202_251, s202_252, s202_255, s202_257, s202_260, s202_262, z_lt_t, z_lt_f, z_le_t, z_le_f, z_lt0, z_ge0, z_cl, z_in, z_add, z_eq_f, z_ne0, z_00, z_10, z_01, z_11, z_neg1, z_nI_NONE, z_div, z_rem, z_rem2, sw_pu_s, sw_pu_n, true_and, and_true, true_or, or_true, if_true, if_false, not_true_eq_false, not_false_eq_true, c]
  | succ n ih =>
    intro i h
    have := ih (i + 1) (by omega)
    have hl : sm (fun k => fuT T k + fuT T (4 + k)) i ≤ 18 * i := sm_le (fun k hk => by have := fuT_le hW (s := k) (by omega); have := fuT_le hW (s := 4 + k) (by omega); omega)
    rw [sm_s] at this
    have f1 := hV (29 + i) (by omega)
    have f2 := hV (9 + i) (by omega)
    rw [show 1107 + (29 + i) = 1136 + i by omega] at f1
    rw [show 1107 + (9 + i) = 1116 + i by omega] at f2
    have g1 : fuT T i = if i < T 1 then T (29 + i) else 0 := by
      unfold fuT stP
      by_cases c : i < T 1
      · rw [if_pos c, if_pos (by omega), if_pos (by omega)]
      · rw [if_neg c, if_neg (by omega)]
    have g2 : fuT T (4 + i) = if i < T 0 then T (9 + i) else 0 := by
      unfold fuT stP
      by_cases c : i < T 0
      · rw [if_pos c, if_pos (by omega), if_neg (by omega), show 5 + (4 + i) = 9 + i by omega]
      · rw [if_neg c, if_neg (by omega)]
    refine (s202_181 ..).trans ?_
    by_cases c1 : i < T 1
    · rw [if_pos c1] at g1
      by_cases c2 : i < T 0
      · rw [if_pos c2] at g2
        simp (disch := omega) only [s202_183, s202_184, s202_187, s202_189, s202_191, s202_192, s202_195, s202_196, s202_197, s202_200, s202_201, s202_204, s202_207, s202_209, s202_210, s202_211, s202_214, s202_215, s202_217, s202_218, s202_221, s202_222, s202_223, s202_226, s202_227, s202_230, s202_233, s202_235, s202_236, s202_237, s202_240, s202_241, s202_242, s202_243, s202_245, s202_248, z_lt_t, z_lt_f, z_le_t, z_le_f, z_lt0, z_ge0, z_cl, z_in, z_add, z_eq_f, z_ne0, z_00, z_10, z_01, z_11, z_neg1, z_nI_NONE, z_div, z_rem, z_rem2, sw_pu_s, sw_pu_n, true_and, and_true, true_or, or_true, if_true, if_false, not_true_eq_false, not_false_eq_true, m0, m1, f1, f2, ← g1, ← g2]
        exact this
      · rw [if_neg c2] at g2
        rw [g2] at this
        simp (disch := omega) only [s202_183, s202_184, s202_187, s202_189, s202_191, s202_192, s202_195, s202_196, s202_197, s202_200, s202_201, s202_204, s202_207, s202_209, s202_210, s202_211, s202_214, s202_215, s202_217, s202_218, s202_221, s202_222, s202_223, s202_226, s202_227, s202_230, s202_233, s202_235, s202_236, s202_237, s202_240, s202_241, s202_242, s202_243, s202_245, s202_248, z_lt_t, z_lt_f, z_le_t, z_le_f, z_lt0, z_ge0, z_cl, z_in, z_add, z_eq_f, z_ne0, z_00, z_10, z_01, z_11, z_neg1, z_nI_NONE, z_div, z_rem, z_rem2, sw_pu_s, sw_pu_n, true_and, and_true, true_or, or_true, if_true, if_false, not_true_eq_false, not_false_eq_true, m0, m1, f1, ← g1]
        exact this
    · rw [if_neg c1] at g1
      rw [g1] at this
      by_cases c2 : i < T 0
      · rw [if_pos c2] at g2
        simp (disch := omega) only [s202_183, s202_184, s202_187, s202_189, s202_191, s202_192, s202_195, s202_196, s202_197, s202_200, s202_201, s202_204, s202_207, s202_209, s202_210, s202_211, s202_214, s202_215, s202_217, s202_218, s202_221, s202_222, s202_223, s202_226, s202_227, s202_230, s202_233, s202_235, s202_236, s202_237, s202_240, s202_241, s202_242, s202_243, s202_245, s202_248, z_lt_t, z_lt_f, z_le_t, z_le_f, z_lt0, z_ge0, z_cl, z_in, z_add, z_eq_f, z_ne0, z_00, z_10, z_01, z_11, z_neg1, z_nI_NONE, z_div, z_rem, z_rem2, sw_pu_s, sw_pu_n, true_and, and_true, true_or, or_true, if_true, if_false, not_true_eq_false, not_false_eq_true, m0, m1, f2, ← g2]
        exact this
      · rw [if_neg c2] at g2
        rw [g2] at this
        simp (disch := omega) only [s202_183, s202_184, s202_187, s202_189, s202_191, s202_192, s202_195, s202_196, s202_197, s202_200, s202_201, s202_204, s202_207, s202_209, s202_210, s202_211, s202_214, s202_215, s202_217, s202_218, s202_221, s202_222, s202_223, s202_226, s202_227, s202_230, s202_233, s202_235, s202_236, s202_237, s202_240, s202_241, s202_242, s202_243, s202_245, s202_248, z_lt_t, z_lt_f, z_le_t, z_le_f, z_lt0, z_ge0, z_cl, z_in, z_add, z_eq_f, z_ne0, z_00, z_10, z_01, z_11, z_neg1, z_nI_NONE, z_div, z_rem, z_rem2, sw_pu_s, sw_pu_n, true_and, and_true, true_or, or_true, if_true, if_false, not_true_eq_false, not_false_eq_true, m0, m1]
        exact this
theorem o_drawn (x s w : Int32) : Opp 115 202 [.int x, .int s, .int w] := by
  intro d T I π ρ τ ft sv θ M N hO hC hM
  have hV := hC.1
  have hT := hM.1.1
  have hi := hM.1.2
  have hW := hO.1.1
  have h9 := hO.1.2.2.1
  have h62 := fun d Q => k62 (d := d) (Q := Q) hV hW
  by_cases h0 : 0 < T 0
  case neg =>
    rw [is1_n h0] at hi
    refine Res_id hO hC hM (-1000002) (fun Q => ?_) (fun Q => ?_)
    · rw [c115]
      simp (disch := omega) only [s115_0, s115_1, s115_4, s115_7, s115_10, s115_12, z_lt_t, z_lt_f, z_le_t, z_le_f, z_lt0, z_ge0, z_cl, z_in, z_add, z_eq_f, z_ne0, z_00, z_10, z_01, z_11, z_neg1, z_nI_NONE, z_div, z_rem, z_rem2, sw_pu_s, sw_pu_n, true_and, and_true, true_or, or_true, if_true, if_false, not_true_eq_false, not_false_eq_true, h62, h0]
    · rw [c202]
      simp (disch := omega) only [s202_0, s202_1, s202_4, s202_7, s202_9, z_lt_t, z_lt_f, z_le_t, z_le_f, z_lt0, z_ge0, z_cl, z_in, z_add, z_eq_f, z_ne0, z_00, z_10, z_01, z_11, z_neg1, z_nI_NONE, z_div, z_rem, z_rem2, sw_pu_s, sw_pu_n, true_and, and_true, true_or, or_true, if_true, if_false, not_true_eq_false, not_false_eq_true, hi]
  rw [is1_p h0] at hi
  by_cases a : (0 ≤ x.toInt ∧ x.toInt ≤ 60) ∧ (1 ≤ s.toInt ∧ s.toInt ≤ 999999) ∧ (0 ≤ w.toInt ∧ w.toInt ≤ 1)
  case neg =>
    refine Res_id hO hC hM (-1000001) (fun Q => ?_) (fun Q => ?_)
    · rw [c115]
      by_cases a1 : 0 ≤ x.toInt ∧ x.toInt ≤ 60
      · by_cases a2 : s.toInt < 1
        · simp (disch := omega) only [s115_0, s115_1, s115_4, s115_7, s115_10, s115_12, s115_13, s115_14, s115_17, s115_20, s115_21, s115_22, s115_25, s115_26, s115_29, s115_32, s115_33, s115_36, s115_37, s115_38, s115_41, s115_43, z_lt_t, z_lt_f, z_le_t, z_le_f, z_lt0, z_ge0, z_cl, z_in, z_add, z_eq_f, z_ne0, z_00, z_10, z_01, z_11, z_neg1, z_nI_NONE, z_div, z_rem, z_rem2, sw_pu_s, sw_pu_n, true_and, and_true, true_or, or_true, if_true, if_false, not_true_eq_false, not_false_eq_true, h62, h0, k126, z_ltI, z_gtI, z_leI, z_geI, z_lt0I, z_ge0I, z_gt0I, z_le0I, z_ibI, Int32.toInt_zero, ↓if_pos, ↓if_neg]
        · by_cases a3 : 999999 < s.toInt
          · simp (disch := omega) only [s115_0, s115_1, s115_4, s115_7, s115_10, s115_12, s115_13, s115_14, s115_17, s115_20, s115_21, s115_22, s115_25, s115_26, s115_29, s115_32, s115_33, s115_36, s115_37, s115_38, s115_41, s115_43, z_lt_t, z_lt_f, z_le_t, z_le_f, z_lt0, z_ge0, z_cl, z_in, z_add, z_eq_f, z_ne0, z_00, z_10, z_01, z_11, z_neg1, z_nI_NONE, z_div, z_rem, z_rem2, sw_pu_s, sw_pu_n, true_and, and_true, true_or, or_true, if_true, if_false, not_true_eq_false, not_false_eq_true, h62, h0, k126, z_ltI, z_gtI, z_leI, z_geI, z_lt0I, z_ge0I, z_gt0I, z_le0I, z_ibI, Int32.toInt_zero, ↓if_pos, ↓if_neg]
          · by_cases a4 : w.toInt < 0
            · simp (disch := omega) only [s115_0, s115_1, s115_4, s115_7, s115_10, s115_12, s115_13, s115_14, s115_17, s115_20, s115_21, s115_22, s115_25, s115_26, s115_29, s115_32, s115_33, s115_36, s115_37, s115_38, s115_41, s115_43, z_lt_t, z_lt_f, z_le_t, z_le_f, z_lt0, z_ge0, z_cl, z_in, z_add, z_eq_f, z_ne0, z_00, z_10, z_01, z_11, z_neg1, z_nI_NONE, z_div, z_rem, z_rem2, sw_pu_s, sw_pu_n, true_and, and_true, true_or, or_true, if_true, if_false, not_true_eq_false, not_false_eq_true, h62, h0, k126, z_ltI, z_gtI, z_leI, z_geI, z_lt0I, z_ge0I, z_gt0I, z_le0I, z_ibI, Int32.toInt_zero, ↓if_pos, ↓if_neg]
            · simp (disch := omega) only [s115_0, s115_1, s115_4, s115_7, s115_10, s115_12, s115_13, s115_14, s115_17, s115_20, s115_21, s115_22, s115_25, s115_26, s115_29, s115_32, s115_33, s115_36, s115_37, s115_38, s115_41, s115_43, z_lt_t, z_lt_f, z_le_t, z_le_f, z_lt0, z_ge0, z_cl, z_in, z_add, z_eq_f, z_ne0, z_00, z_10, z_01, z_11, z_neg1, z_nI_NONE, z_div, z_rem, z_rem2, sw_pu_s, sw_pu_n, true_and, and_true, true_or, or_true, if_true, if_false, not_true_eq_false, not_false_eq_true, h62, h0, k126, z_ltI, z_gtI, z_leI, z_geI, z_lt0I, z_ge0I, z_gt0I, z_le0I, z_ibI, Int32.toInt_zero, ↓if_pos, ↓if_neg]
      · simp (disch := omega) only [s115_0, s115_1, s115_4, s115_7, s115_10, s115_12, s115_13, s115_14, s115_17, s115_20, s115_21, s115_22, s115_25, s115_26, s115_29, s115_32, s115_33, s115_36, s115_37, s115_38, s115_41, s115_43, z_lt_t, z_lt_f, z_le_t, z_le_f, z_lt0, z_ge0, z_cl, z_in, z_add, z_eq_f, z_ne0, z_00, z_10, z_01, z_11, z_neg1, z_nI_NONE, z_div, z_rem, z_rem2, sw_pu_s, sw_pu_n, true_and, and_true, true_or, or_true, if_true, if_false, not_true_eq_false, not_false_eq_true, h62, h0, k126, ↓if_pos, ↓if_neg]
    · rw [c202]
      by_cases a1 : 0 ≤ x.toInt ∧ x.toInt ≤ 60
      · by_cases a2 : 1 ≤ s.toInt ∧ s.toInt ≤ 999999
        · simp (disch := omega) only [s202_0, s202_1, s202_4, s202_7, s202_9, s202_10, s202_11, s202_12, s202_13, s202_16, s202_19, s202_22, s202_23, s202_24, s202_25, s202_28, s202_31, s202_34, s202_35, s202_36, s202_37, s202_38, s202_41, s202_44, s202_46, z_lt_t, z_lt_f, z_le_t, z_le_f, z_lt0, z_ge0, z_cl, z_in, z_add, z_eq_f, z_ne0, z_00, z_10, z_01, z_11, z_neg1, z_nI_NONE, z_div, z_rem, z_rem2, sw_pu_s, sw_pu_n, true_and, and_true, true_or, or_true, if_true, if_false, not_true_eq_false, not_false_eq_true, hi, k129, z_lT, z_xT, ↓if_pos, ↓if_neg]
        · simp (disch := omega) only [s202_0, s202_1, s202_4, s202_7, s202_9, s202_10, s202_11, s202_12, s202_13, s202_16, s202_19, s202_22, s202_23, s202_24, s202_25, s202_28, s202_31, s202_34, s202_35, s202_36, s202_37, s202_38, s202_41, s202_44, s202_46, z_lt_t, z_lt_f, z_le_t, z_le_f, z_lt0, z_ge0, z_cl, z_in, z_add, z_eq_f, z_ne0, z_00, z_10, z_01, z_11, z_neg1, z_nI_NONE, z_div, z_rem, z_rem2, sw_pu_s, sw_pu_n, true_and, and_true, true_or, or_true, if_true, if_false, not_true_eq_false, not_false_eq_true, hi, k129, z_lT, z_xT, ↓if_pos, ↓if_neg]
      · simp (disch := omega) only [s202_0, s202_1, s202_4, s202_7, s202_9, s202_10, s202_11, s202_12, s202_13, s202_16, s202_19, s202_22, s202_23, s202_24, s202_25, s202_28, s202_31, s202_34, s202_35, s202_36, s202_37, s202_38, s202_41, s202_44, s202_46, z_lt_t, z_lt_f, z_le_t, z_le_f, z_lt0, z_ge0, z_cl, z_in, z_add, z_eq_f, z_ne0, z_00, z_10, z_01, z_11, z_neg1, z_nI_NONE, z_div, z_rem, z_rem2, sw_pu_s, sw_pu_n, true_and, and_true, true_or, or_true, if_true, if_false, not_true_eq_false, not_false_eq_true, hi, k129, z_lT, z_xT, ↓if_pos, ↓if_neg]
  obtain ⟨n, hn, rfl⟩ := sw_ib_of (x := x) (n := 61) (by rw [z_ibI]; omega) (by omega)
  obtain ⟨w', hw, rfl⟩ := sw_ib_of (x := w) (n := 2) (by rw [z_ibI]; omega) (by omega)
  have hy : okd s.toInt64 := ⟨by rw [z_xT]; omega, by rw [z_xT]; omega⟩
  obtain ⟨M1, e1, e2, e3⟩ := k26 (d := d + 13) hV hO.1 h0 (show n ≤ 60 by omega) a.2.1.1 a.2.1.2
  have hMl : IsM (cpT N 0 1107 41) 0 T := cpT_keep hT (by omega)
  obtain ⟨N1, y', g1, g2, g3⟩ := k202L (d := d + 15) (K := n) (show n ≤ 60 by omega) s (nI w') n 0 0 _ (cpT N 0 1107 41) T s.toInt64 (by omega) (by omega) hMl rfl rfl (hO.1.2.2.2.1 h0) (cpT_IsM hT) hW h0 hO.1.2.1 (by omega) (by omega) hy
  obtain ⟨t1, t2, t3⟩ := dwT_W n T s.toInt64 hW h0 (by omega)
  have s2 := sM.cp.tr g2
  have hM1 : IsM N1 0 T := IsM_c hT (fun j _ _ => s2.2 j (by omega))
  have hF := fun Q => k202F (d := d + 19) (Q := Q) hM1 g1 t1 t2.symm t3.symm (nI n) s (nI w') (nI (0 + dwH nxd n T s.toInt64)) y' 4 0 (by omega)
  have h77 := fun d Q => k77 (d := d) (Q := Q) e1 t1
  have hL : ∀ Q, sw_Cal (d + 20) 202 [.ref 0, .int (nI n), .int s, .int (nI w')] N Q = (if nI w' = 0 then Q (some (.int (nI (dwH nxd n T s.toInt64)))) N1 else Q (some (.int (nI (sm (fuT (dwX nxd n T s.toInt64)) 8)))) N1) := by
    intro Q
    rw [c202]
    simp (disch := omega) only [s202_0, s202_1, s202_4, s202_7, s202_9, s202_10, s202_11, s202_12, s202_13, s202_16, s202_19, s202_22, s202_23, s202_24, s202_25, s202_28, s202_31, s202_34, s202_35, s202_36, s202_37, s202_38, s202_41, s202_44, s202_46, s202_47, s202_48, s202_51, s202_52, s202_53, s202_55, s202_56, s202_58, s202_59, z_lt_t, z_lt_f, z_le_t, z_le_f, z_lt0, z_ge0, z_cl, z_in, z_add, z_eq_f, z_ne0, z_00, z_10, z_01, z_11, z_neg1, z_nI_NONE, z_div, z_rem, z_rem2, sw_pu_s, sw_pu_n, true_and, and_true, true_or, or_true, if_true, if_false, not_true_eq_false, not_false_eq_true, hi, k129, z_lT, z_xT, z_TI, k177, ↓if_pos, ↓if_neg]
    refine (g3 Q).trans ?_
    simp (disch := omega) only [s202_175, s202_176, s202_178, s202_179]
    refine (hF Q).trans ?_
    rw [Nat.zero_add]
  rcases (show w' = 0 ∨ w' = 1 by omega) with rfl | rfl
  · refine Res_scr hO hC hM (nI (dwH nxd n T s.toInt64)) e2 s2 (fun Q => ?_) (fun Q => ?_)
    · rw [c115]
      simp (disch := omega) only [s115_0, s115_1, s115_4, s115_7, s115_10, s115_12, s115_13, s115_14, s115_17, s115_20, s115_21, s115_22, s115_25, s115_26, s115_29, s115_32, s115_33, s115_36, s115_37, s115_38, s115_41, s115_43, s115_44, s115_45, s115_48, s115_49, s115_52, s115_53, s115_54, s115_57, s115_59, s115_60, s115_63, s115_65, s115_68, s115_69, s115_72, s115_75, s115_78, z_lt_t, z_lt_f, z_le_t, z_le_f, z_lt0, z_ge0, z_cl, z_in, z_add, z_eq_f, z_ne0, z_00, z_10, z_01, z_11, z_neg1, z_nI_NONE, z_div, z_rem, z_rem2, sw_pu_s, sw_pu_n, true_and, and_true, true_or, or_true, if_true, if_false, not_true_eq_false, not_false_eq_true, h62, h0, k126, z_TI, z_ltI, z_gtI, z_leI, z_geI, z_lt0I, z_ge0I, z_gt0I, z_le0I, z_ibI, Int32.toInt_zero, e3, ↓if_pos, ↓if_neg]
    · rw [hL, if_pos nI_0]
  · refine Res_scr hO hC hM (nI (sm (fuT (dwX nxd n T s.toInt64)) 8)) e2 s2 (fun Q => ?_) (fun Q => ?_)
    · rw [c115]
      simp (disch := omega) only [s115_0, s115_1, s115_4, s115_7, s115_10, s115_12, s115_13, s115_14, s115_17, s115_20, s115_21, s115_22, s115_25, s115_26, s115_29, s115_32, s115_33, s115_36, s115_37, s115_38, s115_41, s115_43, s115_44, s115_45, s115_48, s115_49, s115_52, s115_53, s115_54, s115_57, s115_59, s115_60, s115_63, s115_65, s115_68, s115_69, s115_72, s115_75, s115_78, z_lt_t, z_lt_f, z_le_t, z_le_f, z_lt0, z_ge0, z_cl, z_in, z_add, z_eq_f, z_ne0, z_00, z_10, z_01, z_11, z_neg1, z_nI_NONE, z_div, z_rem, z_rem2, sw_pu_s, sw_pu_n, true_and, and_true, true_or, or_true, if_true, if_false, not_true_eq_false, not_false_eq_true, h62, h0, k126, z_TI, z_ltI, z_gtI, z_leI, z_geI, z_lt0I, z_ge0I, z_gt0I, z_le0I, z_ibI, Int32.toInt_zero, e3, h77, kd_v.1, ↓if_pos, ↓if_neg]
    · rw [hL, if_neg (by decide)]
end DRY
