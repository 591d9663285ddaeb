/-! the law: call by call -/
section LAW
variable {d : Nat} {T : Tw} {I : Nat → Tw} {π : Ps} {ρ : Rw} {τ : Tp} {ft sv : Int32} {θ : Tc} {M N : sw_Mem} {c m : Nat} {as : List Value} {Q : Option Value → sw_Mem → Prop}
def Wd (M : sw_Mem) : Prop := ∃ (T : Tw) (I : Nat → Tw) (π : Ps) (ρ : Rw) (τ : Tp) (ft sv : Int32) (θ : Tc), OK T I π ρ τ θ ∧ RC T I π ρ τ ft sv θ M ∧ RM T I π ρ τ ft sv θ M
theorem RM_n {N' : sw_Mem} (ho : π.2 ≤ 24) (h : RM T I π ρ τ ft sv θ M) (e : noM M N') : RM T I π ρ τ ft sv θ N' := RM_c ho h ⟨fun j _ => by rw [e 0 (by omega)], fun j _ => by rw [e 1 (by omega)], fun k _ _ => e k (by omega)⟩
theorem RC_n {N' : sw_Mem} (h : RC T I π ρ τ ft sv θ M) (e : noC M N') : RC T I π ρ τ ft sv θ N' := RC_c h (fun k hk => e k (by omega))
theorem opp_run (h : Opp c m as) (hO : OK T I π ρ τ θ) (hC : RC T I π ρ τ ft sv θ M) (hM : RM T I π ρ τ ft sv θ M) : ∃ M1 M2 r, Wd M2 ∧ M1 112 = M 112 ∧ M1 113 = M 113 ∧ M2 112 = M 112 ∧ M2 113 = M 113 ∧
    (∀ Q, sw_Cal (d + 20) c (.ref 11 :: as) M Q = Q (some (.int r)) M1) ∧ ∀ Q, sw_Cal (d + 20) m (.ref 0 :: as) M1 Q = Q (some (.int r)) M2 := by
  obtain ⟨T0, I0, π0, ρ0, τ0, ft0, sv0, θ0, r0, M1, N0, o0, ⟨c1, c2, c3⟩, -⟩ := h d T I π ρ τ ft sv θ M M hO hC hM
  obtain ⟨T', I', π', ρ', τ', ft', sv', θ', r, M1', M2, o1, ⟨g1, g2, g3⟩, g4, g5, g6⟩ := h d T I π ρ τ ft sv θ M M1 hO hC (RM_n hO.2.2.1.1 hM c2)
  have e := (c3 (fun a b => a = some (.int r) ∧ b = M1')).symm.trans (g3 (fun a b => a = some (.int r) ∧ b = M1'))
  have e2 := e.mpr ⟨rfl, rfl⟩
  obtain ⟨-, rfl⟩ := e2
  exact ⟨M1, M2, r, ⟨T', I', π', ρ', τ', ft', sv', θ', o1, RC_n g1 g5, g4⟩, c2 112 (by omega), c2 113 (by omega), (g5 112 (by omega)).trans (c2 112 (by omega)), (g5 113 (by omega)).trans (c2 113 (by omega)), g3, g6⟩
def Lstp (d L i : Nat) (M : sw_Mem) : Prop := ∃ M2, Wd M2 ∧ M2 113 0 = nI L ∧ ∀ Q, sw_WP (d + 20) 225 18 [.ref 112, .ref 11, .ref 0, .int (nI i)] [] M Q = sw_WP (d + 20) 225 18 [.ref 112, .ref 11, .ref 0, .int (nI (i + 6))] [] M2 Q
theorem kd112 : sw_kd 112 = 14 := by decide +kernel
theorem rl_L {L : Nat} (h3 : M 113 0 = nI L) (hL : L < 2 ^ 30) : sw_rl M 112 = L := by
  unfold sw_rl
  rw [if_pos rfl, h3, z_cl (by omega)]
theorem z_lm6 {L i : Nat} (hL : L < 2 ^ 30) (hi : i < 2 ^ 30) : (nI L - nI 6 < nI i) = (L < i + 6) := by
  rw [eq_iff_iff, Int32.lt_iff_toInt_lt, z_subI hL (by decide), nI_toInt (by omega)]
  omega
theorem lw_head {L i : Nat} (h3 : M 113 0 = nI L) (hL : L < 2 ^ 30) (hi : i + 6 ≤ L) : sw_WP d 225 18 [.ref 112, .ref 11, .ref 0, .int (nI i)] [] M Q = sw_WP d 225 (sw_pick [0, 1, 2, 3, 4, 5, 6, 7, 8, 9, 10, 11, 12, 13, 14, 15, 16, 17, 18, 19, 20, 21, 22, 23, 24, 25, 26, 27, 28, 29, 30, 31, 32] [180, 223, 266, 329, 352, 375, 388, 401, 424, 457, 480, 503, 516, 549, 582, 615, 648, 671, 694, 717, 750, 793, 826, 889, 932, 975, 998, 1021, 1044, 1077, 1110, 1133, 1156, 1169] (M 112 i &&& nI 63).toInt) [.ref 112, .ref 11, .ref 0, .int (nI i)] [] M Q := by
  have r0 := rl_L h3 hL
  have hc := z_lm6 (i := i) hL (by omega)
  refine (s225_18 ..).trans ?_
  simp (disch := omega) only [s225_19, s225_20, s225_21, s225_23, s225_24, s225_27, s225_28, s225_29, s225_30, s225_32, s225_33, z_lt_t, z_lt_f, z_le_t, z_le_f, z_lt0, z_ge0, z_cl, z_in, z_add, z_eq_f, z_ne0, z_00, z_10, z_01, z_11, z_neg1, z_nI_NONE, z_div, z_rem, z_rem2, sw_pu_s, sw_pu_n, true_and, and_true, true_or, or_true, if_true, if_false, not_true_eq_false, not_false_eq_true, r0, kd112, hc, show ¬ (L < i + 6) by omega]

theorem lw_0 (hO : OK T I π ρ τ θ) (hC : RC T I π ρ τ ft sv θ M) (hM : RM T I π ρ τ ft sv θ M) {L i : Nat} (h3 : M 113 0 = nI L) (hL : L < 2 ^ 30) (hi : i + 6 ≤ L) (hx : (M 112 i &&& nI 63).toInt = 0) : Lstp d L i M := by
  obtain ⟨M1, M2, r, a1, e1, e2, e3, e4, q1, q2⟩ := opp_run (d := d) (o_row (M 112 (i + 1)) (M 112 (i + 2)) (M 112 (i + 3))) hO hC hM
  have hp : sw_pick [0, 1, 2, 3, 4, 5, 6, 7, 8, 9, 10, 11, 12, 13, 14, 15, 16, 17, 18, 19, 20, 21, 22, 23, 24, 25, 26, 27, 28, 29, 30, 31, 32] [180, 223, 266, 329, 352, 375, 388, 401, 424, 457, 480, 503, 516, 549, 582, 615, 648, 671, 694, 717, 750, 793, 826, 889, 932, 975, 998, 1021, 1044, 1077, 1110, 1133, 1156, 1169] 0 = 180 := by decide
  have r0 := rl_L h3 hL
  have r1 := rl_L (M := M1) (by rw [e2]; exact h3) hL
  have kd := kd112
  refine ⟨M2, a1, by rw [e4]; exact h3, fun Q => ?_⟩
  rw [lw_head h3 hL hi, hx, hp]
  simp (disch := omega) only [s225_180, s225_181, s225_182, s225_183, s225_184, s225_185, s225_186, s225_187, s225_188, s225_189, s225_190, s225_191, s225_192, s225_193, s225_194, s225_195, s225_196, s225_199, s225_200, s225_201, s225_202, s225_203, s225_204, s225_205, s225_206, s225_207, s225_208, s225_209, s225_210, s225_211, s225_212, s225_213, s225_214, s225_215, s225_218, s225_221, s225_222, s225_1169, s225_1172, z_lt_t, z_lt_f, z_le_t, z_le_f, z_lt0, z_ge0, z_cl, z_in, z_add, z_eq_f, z_ne0, z_00, z_10, z_01, z_11, z_neg1, z_nI_NONE, z_div, z_rem, z_rem2, sw_pu_s, sw_pu_n, true_and, and_true, true_or, or_true, if_true, if_false, not_true_eq_false, not_false_eq_true, r0, r1, kd112, e1, q1, q2, eq_self]

theorem lw_1 (hO : OK T I π ρ τ θ) (hC : RC T I π ρ τ ft sv θ M) (hM : RM T I π ρ τ ft sv θ M) {L i : Nat} (h3 : M 113 0 = nI L) (hL : L < 2 ^ 30) (hi : i + 6 ≤ L) (hx : (M 112 i &&& nI 63).toInt = 1) : Lstp d L i M := by
  obtain ⟨M1, M2, r, a1, e1, e2, e3, e4, q1, q2⟩ := opp_run (d := d) (o_set (M 112 (i + 1)) (M 112 (i + 2)) (M 112 (i + 3))) hO hC hM
  have hp : sw_pick [0, 1, 2, 3, 4, 5, 6, 7, 8, 9, 10, 11, 12, 13, 14, 15, 16, 17, 18, 19, 20, 21, 22, 23, 24, 25, 26, 27, 28, 29, 30, 31, 32] [180, 223, 266, 329, 352, 375, 388, 401, 424, 457, 480, 503, 516, 549, 582, 615, 648, 671, 694, 717, 750, 793, 826, 889, 932, 975, 998, 1021, 1044, 1077, 1110, 1133, 1156, 1169] 1 = 223 := by decide
  have r0 := rl_L h3 hL
  have r1 := rl_L (M := M1) (by rw [e2]; exact h3) hL
  have kd := kd112
  refine ⟨M2, a1, by rw [e4]; exact h3, fun Q => ?_⟩
  rw [lw_head h3 hL hi, hx, hp]
  simp (disch := omega) only [s225_223, s225_224, s225_225, s225_226, s225_227, s225_228, s225_229, s225_230, s225_231, s225_232, s225_233, s225_234, s225_235, s225_236, s225_237, s225_238, s225_239, s225_242, s225_243, s225_244, s225_245, s225_246, s225_247, s225_248, s225_249, s225_250, s225_251, s225_252, s225_253, s225_254, s225_255, s225_256, s225_257, s225_258, s225_261, s225_264, s225_265, s225_1169, s225_1172, z_lt_t, z_lt_f, z_le_t, z_le_f, z_lt0, z_ge0, z_cl, z_in, z_add, z_eq_f, z_ne0, z_00, z_10, z_01, z_11, z_neg1, z_nI_NONE, z_div, z_rem, z_rem2, sw_pu_s, sw_pu_n, true_and, and_true, true_or, or_true, if_true, if_false, not_true_eq_false, not_false_eq_true, r0, r1, kd112, e1, q1, q2, eq_self]

theorem lw_2 (hO : OK T I π ρ τ θ) (hC : RC T I π ρ τ ft sv θ M) (hM : RM T I π ρ τ ft sv θ M) {L i : Nat} (h3 : M 113 0 = nI L) (hL : L < 2 ^ 30) (hi : i + 6 ≤ L) (hx : (M 112 i &&& nI 63).toInt = 2) : Lstp d L i M := by
  obtain ⟨M1, M2, r, a1, e1, e2, e3, e4, q1, q2⟩ := opp_run (d := d) (o_copy (M 112 (i + 1)) (M 112 (i + 2)) (M 112 (i + 3)) (M 112 (i + 4)) (M 112 (i + 5))) hO hC hM
  have hp : sw_pick [0, 1, 2, 3, 4, 5, 6, 7, 8, 9, 10, 11, 12, 13, 14, 15, 16, 17, 18, 19, 20, 21, 22, 23, 24, 25, 26, 27, 28, 29, 30, 31, 32] [180, 223, 266, 329, 352, 375, 388, 401, 424, 457, 480, 503, 516, 549, 582, 615, 648, 671, 694, 717, 750, 793, 826, 889, 932, 975, 998, 1021, 1044, 1077, 1110, 1133, 1156, 1169] 2 = 266 := by decide
  have r0 := rl_L h3 hL
  have r1 := rl_L (M := M1) (by rw [e2]; exact h3) hL
  have kd := kd112
  refine ⟨M2, a1, by rw [e4]; exact h3, fun Q => ?_⟩
  rw [lw_head h3 hL hi, hx, hp]
  simp (disch := omega) only [s225_266, s225_267, s225_268, s225_269, s225_270, s225_271, s225_272, s225_273, s225_274, s225_275, s225_276, s225_277, s225_278, s225_279, s225_280, s225_281, s225_282, s225_283, s225_284, s225_285, s225_286, s225_287, s225_288, s225_289, s225_290, s225_291, s225_292, s225_295, s225_296, s225_297, s225_298, s225_299, s225_300, s225_301, s225_302, s225_303, s225_304, s225_305, s225_306, s225_307, s225_308, s225_309, s225_310, s225_311, s225_312, s225_313, s225_314, s225_315, s225_316, s225_317, s225_318, s225_319, s225_320, s225_321, s225_324, s225_327, s225_328, s225_1169, s225_1172, z_lt_t, z_lt_f, z_le_t, z_le_f, z_lt0, z_ge0, z_cl, z_in, z_add, z_eq_f, z_ne0, z_00, z_10, z_01, z_11, z_neg1, z_nI_NONE, z_div, z_rem, z_rem2, sw_pu_s, sw_pu_n, true_and, and_true, true_or, or_true, if_true, if_false, not_true_eq_false, not_false_eq_true, r0, r1, kd112, e1, q1, q2, eq_self]

theorem lw_3 (hO : OK T I π ρ τ θ) (hC : RC T I π ρ τ ft sv θ M) (hM : RM T I π ρ τ ft sv θ M) {L i : Nat} (h3 : M 113 0 = nI L) (hL : L < 2 ^ 30) (hi : i + 6 ≤ L) (hx : (M 112 i &&& nI 63).toInt = 3) : Lstp d L i M := by
  obtain ⟨M1, M2, r, a1, e1, e2, e3, e4, q1, q2⟩ := opp_run (d := d) (o_drop (M 112 (i + 1))) hO hC hM
  have hp : sw_pick [0, 1, 2, 3, 4, 5, 6, 7, 8, 9, 10, 11, 12, 13, 14, 15, 16, 17, 18, 19, 20, 21, 22, 23, 24, 25, 26, 27, 28, 29, 30, 31, 32] [180, 223, 266, 329, 352, 375, 388, 401, 424, 457, 480, 503, 516, 549, 582, 615, 648, 671, 694, 717, 750, 793, 826, 889, 932, 975, 998, 1021, 1044, 1077, 1110, 1133, 1156, 1169] 3 = 329 := by decide
  have r0 := rl_L h3 hL
  have r1 := rl_L (M := M1) (by rw [e2]; exact h3) hL
  have kd := kd112
  refine ⟨M2, a1, by rw [e4]; exact h3, fun Q => ?_⟩
  rw [lw_head h3 hL hi, hx, hp]
  simp (disch := omega) only [s225_329, s225_330, s225_331, s225_332, s225_333, s225_334, s225_335, s225_338, s225_339, s225_340, s225_341, s225_342, s225_343, s225_344, s225_347, s225_350, s225_351, s225_1169, s225_1172, z_lt_t, z_lt_f, z_le_t, z_le_f, z_lt0, z_ge0, z_cl, z_in, z_add, z_eq_f, z_ne0, z_00, z_10, z_01, z_11, z_neg1, z_nI_NONE, z_div, z_rem, z_rem2, sw_pu_s, sw_pu_n, true_and, and_true, true_or, or_true, if_true, if_false, not_true_eq_false, not_false_eq_true, r0, r1, kd112, e1, q1, q2, eq_self]

theorem lw_4 (hO : OK T I π ρ τ θ) (hC : RC T I π ρ τ ft sv θ M) (hM : RM T I π ρ τ ft sv θ M) {L i : Nat} (h3 : M 113 0 = nI L) (hL : L < 2 ^ 30) (hi : i + 6 ≤ L) (hx : (M 112 i &&& nI 63).toInt = 4) : Lstp d L i M := by
  obtain ⟨M1, M2, r, a1, e1, e2, e3, e4, q1, q2⟩ := opp_run (d := d) (o_feed (M 112 (i + 1))) hO hC hM
  have hp : sw_pick [0, 1, 2, 3, 4, 5, 6, 7, 8, 9, 10, 11, 12, 13, 14, 15, 16, 17, 18, 19, 20, 21, 22, 23, 24, 25, 26, 27, 28, 29, 30, 31, 32] [180, 223, 266, 329, 352, 375, 388, 401, 424, 457, 480, 503, 516, 549, 582, 615, 648, 671, 694, 717, 750, 793, 826, 889, 932, 975, 998, 1021, 1044, 1077, 1110, 1133, 1156, 1169] 4 = 352 := by decide
  have r0 := rl_L h3 hL
  have r1 := rl_L (M := M1) (by rw [e2]; exact h3) hL
  have kd := kd112
  refine ⟨M2, a1, by rw [e4]; exact h3, fun Q => ?_⟩
  rw [lw_head h3 hL hi, hx, hp]
  simp (disch := omega) only [s225_352, s225_353, s225_354, s225_355, s225_356, s225_357, s225_358, s225_361, s225_362, s225_363, s225_364, s225_365, s225_366, s225_367, s225_370, s225_373, s225_374, s225_1169, s225_1172, z_lt_t, z_lt_f, z_le_t, z_le_f, z_lt0, z_ge0, z_cl, z_in, z_add, z_eq_f, z_ne0, z_00, z_10, z_01, z_11, z_neg1, z_nI_NONE, z_div, z_rem, z_rem2, sw_pu_s, sw_pu_n, true_and, and_true, true_or, or_true, if_true, if_false, not_true_eq_false, not_false_eq_true, r0, r1, kd112, e1, q1, q2, eq_self]

theorem lw_5 (hO : OK T I π ρ τ θ) (hC : RC T I π ρ τ ft sv θ M) (hM : RM T I π ρ τ ft sv θ M) {L i : Nat} (h3 : M 113 0 = nI L) (hL : L < 2 ^ 30) (hi : i + 6 ≤ L) (hx : (M 112 i &&& nI 63).toInt = 5) : Lstp d L i M := by
  obtain ⟨M1, M2, r, a1, e1, e2, e3, e4, q1, q2⟩ := opp_run (d := d) (o_valley) hO hC hM
  have hp : sw_pick [0, 1, 2, 3, 4, 5, 6, 7, 8, 9, 10, 11, 12, 13, 14, 15, 16, 17, 18, 19, 20, 21, 22, 23, 24, 25, 26, 27, 28, 29, 30, 31, 32] [180, 223, 266, 329, 352, 375, 388, 401, 424, 457, 480, 503, 516, 549, 582, 615, 648, 671, 694, 717, 750, 793, 826, 889, 932, 975, 998, 1021, 1044, 1077, 1110, 1133, 1156, 1169] 5 = 375 := by decide
  have r0 := rl_L h3 hL
  have r1 := rl_L (M := M1) (by rw [e2]; exact h3) hL
  have kd := kd112
  refine ⟨M2, a1, by rw [e4]; exact h3, fun Q => ?_⟩
  rw [lw_head h3 hL hi, hx, hp]
  simp (disch := omega) only [s225_375, s225_376, s225_379, s225_380, s225_383, s225_386, s225_387, s225_1169, s225_1172, z_lt_t, z_lt_f, z_le_t, z_le_f, z_lt0, z_ge0, z_cl, z_in, z_add, z_eq_f, z_ne0, z_00, z_10, z_01, z_11, z_neg1, z_nI_NONE, z_div, z_rem, z_rem2, sw_pu_s, sw_pu_n, true_and, and_true, true_or, or_true, if_true, if_false, not_true_eq_false, not_false_eq_true, r0, r1, kd112, e1, q1, q2, eq_self]

theorem lw_6 (hO : OK T I π ρ τ θ) (hC : RC T I π ρ τ ft sv θ M) (hM : RM T I π ρ τ ft sv θ M) {L i : Nat} (h3 : M 113 0 = nI L) (hL : L < 2 ^ 30) (hi : i + 6 ≤ L) (hx : (M 112 i &&& nI 63).toInt = 6) : Lstp d L i M := by
  obtain ⟨M1, M2, r, a1, e1, e2, e3, e4, q1, q2⟩ := opp_run (d := d) (o_fault) hO hC hM
  have hp : sw_pick [0, 1, 2, 3, 4, 5, 6, 7, 8, 9, 10, 11, 12, 13, 14, 15, 16, 17, 18, 19, 20, 21, 22, 23, 24, 25, 26, 27, 28, 29, 30, 31, 32] [180, 223, 266, 329, 352, 375, 388, 401, 424, 457, 480, 503, 516, 549, 582, 615, 648, 671, 694, 717, 750, 793, 826, 889, 932, 975, 998, 1021, 1044, 1077, 1110, 1133, 1156, 1169] 6 = 388 := by decide
  have r0 := rl_L h3 hL
  have r1 := rl_L (M := M1) (by rw [e2]; exact h3) hL
  have kd := kd112
  refine ⟨M2, a1, by rw [e4]; exact h3, fun Q => ?_⟩
  rw [lw_head h3 hL hi, hx, hp]
  simp (disch := omega) only [s225_388, s225_389, s225_392, s225_393, s225_396, s225_399, s225_400, s225_1169, s225_1172, z_lt_t, z_lt_f, z_le_t, z_le_f, z_lt0, z_ge0, z_cl, z_in, z_add, z_eq_f, z_ne0, z_00, z_10, z_01, z_11, z_neg1, z_nI_NONE, z_div, z_rem, z_rem2, sw_pu_s, sw_pu_n, true_and, and_true, true_or, or_true, if_true, if_false, not_true_eq_false, not_false_eq_true, r0, r1, kd112, e1, q1, q2, eq_self]

theorem lw_7 (hO : OK T I π ρ τ θ) (hC : RC T I π ρ τ ft sv θ M) (hM : RM T I π ρ τ ft sv θ M) {L i : Nat} (h3 : M 113 0 = nI L) (hL : L < 2 ^ 30) (hi : i + 6 ≤ L) (hx : (M 112 i &&& nI 63).toInt = 7) : Lstp d L i M := by
  obtain ⟨M1, M2, r, a1, e1, e2, e3, e4, q1, q2⟩ := opp_run (d := d) (o_days (M 112 (i + 1))) hO hC hM
  have hp : sw_pick [0, 1, 2, 3, 4, 5, 6, 7, 8, 9, 10, 11, 12, 13, 14, 15, 16, 17, 18, 19, 20, 21, 22, 23, 24, 25, 26, 27, 28, 29, 30, 31, 32] [180, 223, 266, 329, 352, 375, 388, 401, 424, 457, 480, 503, 516, 549, 582, 615, 648, 671, 694, 717, 750, 793, 826, 889, 932, 975, 998, 1021, 1044, 1077, 1110, 1133, 1156, 1169] 7 = 401 := by decide
  have r0 := rl_L h3 hL
  have r1 := rl_L (M := M1) (by rw [e2]; exact h3) hL
  have kd := kd112
  refine ⟨M2, a1, by rw [e4]; exact h3, fun Q => ?_⟩
  rw [lw_head h3 hL hi, hx, hp]
  simp (disch := omega) only [s225_401, s225_402, s225_403, s225_404, s225_405, s225_406, s225_407, s225_410, s225_411, s225_412, s225_413, s225_414, s225_415, s225_416, s225_419, s225_422, s225_423, s225_1169, s225_1172, z_lt_t, z_lt_f, z_le_t, z_le_f, z_lt0, z_ge0, z_cl, z_in, z_add, z_eq_f, z_ne0, z_00, z_10, z_01, z_11, z_neg1, z_nI_NONE, z_div, z_rem, z_rem2, sw_pu_s, sw_pu_n, true_and, and_true, true_or, or_true, if_true, if_false, not_true_eq_false, not_false_eq_true, r0, r1, kd112, e1, q1, q2, eq_self]

theorem lw_8 (hO : OK T I π ρ τ θ) (hC : RC T I π ρ τ ft sv θ M) (hM : RM T I π ρ τ ft sv θ M) {L i : Nat} (h3 : M 113 0 = nI L) (hL : L < 2 ^ 30) (hi : i + 6 ≤ L) (hx : (M 112 i &&& nI 63).toInt = 8) : Lstp d L i M := by
  obtain ⟨M1, M2, r, a1, e1, e2, e3, e4, q1, q2⟩ := opp_run (d := d) (o_wed (M 112 (i + 1)) (M 112 (i + 2))) hO hC hM
  have hp : sw_pick [0, 1, 2, 3, 4, 5, 6, 7, 8, 9, 10, 11, 12, 13, 14, 15, 16, 17, 18, 19, 20, 21, 22, 23, 24, 25, 26, 27, 28, 29, 30, 31, 32] [180, 223, 266, 329, 352, 375, 388, 401, 424, 457, 480, 503, 516, 549, 582, 615, 648, 671, 694, 717, 750, 793, 826, 889, 932, 975, 998, 1021, 1044, 1077, 1110, 1133, 1156, 1169] 8 = 424 := by decide
  have r0 := rl_L h3 hL
  have r1 := rl_L (M := M1) (by rw [e2]; exact h3) hL
  have kd := kd112
  refine ⟨M2, a1, by rw [e4]; exact h3, fun Q => ?_⟩
  rw [lw_head h3 hL hi, hx, hp]
  simp (disch := omega) only [s225_424, s225_425, s225_426, s225_427, s225_428, s225_429, s225_430, s225_431, s225_432, s225_433, s225_434, s225_435, s225_438, s225_439, s225_440, s225_441, s225_442, s225_443, s225_444, s225_445, s225_446, s225_447, s225_448, s225_449, s225_452, s225_455, s225_456, s225_1169, s225_1172, z_lt_t, z_lt_f, z_le_t, z_le_f, z_lt0, z_ge0, z_cl, z_in, z_add, z_eq_f, z_ne0, z_00, z_10, z_01, z_11, z_neg1, z_nI_NONE, z_div, z_rem, z_rem2, sw_pu_s, sw_pu_n, true_and, and_true, true_or, or_true, if_true, if_false, not_true_eq_false, not_false_eq_true, r0, r1, kd112, e1, q1, q2, eq_self]

theorem lw_9 (hO : OK T I π ρ τ θ) (hC : RC T I π ρ τ ft sv θ M) (hM : RM T I π ρ τ ft sv θ M) {L i : Nat} (h3 : M 113 0 = nI L) (hL : L < 2 ^ 30) (hi : i + 6 ≤ L) (hx : (M 112 i &&& nI 63).toInt = 9) : Lstp d L i M := by
  obtain ⟨M1, M2, r, a1, e1, e2, e3, e4, q1, q2⟩ := opp_run (d := d) (o_part (M 112 (i + 1))) hO hC hM
  have hp : sw_pick [0, 1, 2, 3, 4, 5, 6, 7, 8, 9, 10, 11, 12, 13, 14, 15, 16, 17, 18, 19, 20, 21, 22, 23, 24, 25, 26, 27, 28, 29, 30, 31, 32] [180, 223, 266, 329, 352, 375, 388, 401, 424, 457, 480, 503, 516, 549, 582, 615, 648, 671, 694, 717, 750, 793, 826, 889, 932, 975, 998, 1021, 1044, 1077, 1110, 1133, 1156, 1169] 9 = 457 := by decide
  have r0 := rl_L h3 hL
  have r1 := rl_L (M := M1) (by rw [e2]; exact h3) hL
  have kd := kd112
  refine ⟨M2, a1, by rw [e4]; exact h3, fun Q => ?_⟩
  rw [lw_head h3 hL hi, hx, hp]
  simp (disch := omega) only [s225_457, s225_458, s225_459, s225_460, s225_461, s225_462, s225_463, s225_466, s225_467, s225_468, s225_469, s225_470, s225_471, s225_472, s225_475, s225_478, s225_479, s225_1169, s225_1172, z_lt_t, z_lt_f, z_le_t, z_le_f, z_lt0, z_ge0, z_cl, z_in, z_add, z_eq_f, z_ne0, z_00, z_10, z_01, z_11, z_neg1, z_nI_NONE, z_div, z_rem, z_rem2, sw_pu_s, sw_pu_n, true_and, and_true, true_or, or_true, if_true, if_false, not_true_eq_false, not_false_eq_true, r0, r1, kd112, e1, q1, q2, eq_self]

theorem lw_10 (hO : OK T I π ρ τ θ) (hC : RC T I π ρ τ ft sv θ M) (hM : RM T I π ρ τ ft sv θ M) {L i : Nat} (h3 : M 113 0 = nI L) (hL : L < 2 ^ 30) (hi : i + 6 ≤ L) (hx : (M 112 i &&& nI 63).toInt = 10) : Lstp d L i M := by
  obtain ⟨M1, M2, r, a1, e1, e2, e3, e4, q1, q2⟩ := opp_run (d := d) (o_dress (M 112 (i + 1))) hO hC hM
  have hp : sw_pick [0, 1, 2, 3, 4, 5, 6, 7, 8, 9, 10, 11, 12, 13, 14, 15, 16, 17, 18, 19, 20, 21, 22, 23, 24, 25, 26, 27, 28, 29, 30, 31, 32] [180, 223, 266, 329, 352, 375, 388, 401, 424, 457, 480, 503, 516, 549, 582, 615, 648, 671, 694, 717, 750, 793, 826, 889, 932, 975, 998, 1021, 1044, 1077, 1110, 1133, 1156, 1169] 10 = 480 := by decide
  have r0 := rl_L h3 hL
  have r1 := rl_L (M := M1) (by rw [e2]; exact h3) hL
  have kd := kd112
  refine ⟨M2, a1, by rw [e4]; exact h3, fun Q => ?_⟩
  rw [lw_head h3 hL hi, hx, hp]
  simp (disch := omega) only [s225_480, s225_481, s225_482, s225_483, s225_484, s225_485, s225_486, s225_489, s225_490, s225_491, s225_492, s225_493, s225_494, s225_495, s225_498, s225_501, s225_502, s225_1169, s225_1172, z_lt_t, z_lt_f, z_le_t, z_le_f, z_lt0, z_ge0, z_cl, z_in, z_add, z_eq_f, z_ne0, z_00, z_10, z_01, z_11, z_neg1, z_nI_NONE, z_div, z_rem, z_rem2, sw_pu_s, sw_pu_n, true_and, and_true, true_or, or_true, if_true, if_false, not_true_eq_false, not_false_eq_true, r0, r1, kd112, e1, q1, q2, eq_self]

theorem lw_11 (hO : OK T I π ρ τ θ) (hC : RC T I π ρ τ ft sv θ M) (hM : RM T I π ρ τ ft sv θ M) {L i : Nat} (h3 : M 113 0 = nI L) (hL : L < 2 ^ 30) (hi : i + 6 ≤ L) (hx : (M 112 i &&& nI 63).toInt = 11) : Lstp d L i M := by
  obtain ⟨M1, M2, r, a1, e1, e2, e3, e4, q1, q2⟩ := opp_run (d := d) (o_undo) hO hC hM
  have hp : sw_pick [0, 1, 2, 3, 4, 5, 6, 7, 8, 9, 10, 11, 12, 13, 14, 15, 16, 17, 18, 19, 20, 21, 22, 23, 24, 25, 26, 27, 28, 29, 30, 31, 32] [180, 223, 266, 329, 352, 375, 388, 401, 424, 457, 480, 503, 516, 549, 582, 615, 648, 671, 694, 717, 750, 793, 826, 889, 932, 975, 998, 1021, 1044, 1077, 1110, 1133, 1156, 1169] 11 = 503 := by decide
  have r0 := rl_L h3 hL
  have r1 := rl_L (M := M1) (by rw [e2]; exact h3) hL
  have kd := kd112
  refine ⟨M2, a1, by rw [e4]; exact h3, fun Q => ?_⟩
  rw [lw_head h3 hL hi, hx, hp]
  simp (disch := omega) only [s225_503, s225_504, s225_507, s225_508, s225_511, s225_514, s225_515, s225_1169, s225_1172, z_lt_t, z_lt_f, z_le_t, z_le_f, z_lt0, z_ge0, z_cl, z_in, z_add, z_eq_f, z_ne0, z_00, z_10, z_01, z_11, z_neg1, z_nI_NONE, z_div, z_rem, z_rem2, sw_pu_s, sw_pu_n, true_and, and_true, true_or, or_true, if_true, if_false, not_true_eq_false, not_false_eq_true, r0, r1, kd112, e1, q1, q2, eq_self]

theorem lw_12 (hO : OK T I π ρ τ θ) (hC : RC T I π ρ τ ft sv θ M) (hM : RM T I π ρ τ ft sv θ M) {L i : Nat} (h3 : M 113 0 = nI L) (hL : L < 2 ^ 30) (hi : i + 6 ≤ L) (hx : (M 112 i &&& nI 63).toInt = 12) : Lstp d L i M := by
  obtain ⟨M1, M2, r, a1, e1, e2, e3, e4, q1, q2⟩ := opp_run (d := d) (o_runner (M 112 (i + 1)) (M 112 (i + 2))) hO hC hM
  have hp : sw_pick [0, 1, 2, 3, 4, 5, 6, 7, 8, 9, 10, 11, 12, 13, 14, 15, 16, 17, 18, 19, 20, 21, 22, 23, 24, 25, 26, 27, 28, 29, 30, 31, 32] [180, 223, 266, 329, 352, 375, 388, 401, 424, 457, 480, 503, 516, 549, 582, 615, 648, 671, 694, 717, 750, 793, 826, 889, 932, 975, 998, 1021, 1044, 1077, 1110, 1133, 1156, 1169] 12 = 516 := by decide
  have r0 := rl_L h3 hL
  have r1 := rl_L (M := M1) (by rw [e2]; exact h3) hL
  have kd := kd112
  refine ⟨M2, a1, by rw [e4]; exact h3, fun Q => ?_⟩
  rw [lw_head h3 hL hi, hx, hp]
  simp (disch := omega) only [s225_516, s225_517, s225_518, s225_519, s225_520, s225_521, s225_522, s225_523, s225_524, s225_525, s225_526, s225_527, s225_530, s225_531, s225_532, s225_533, s225_534, s225_535, s225_536, s225_537, s225_538, s225_539, s225_540, s225_541, s225_544, s225_547, s225_548, s225_1169, s225_1172, z_lt_t, z_lt_f, z_le_t, z_le_f, z_lt0, z_ge0, z_cl, z_in, z_add, z_eq_f, z_ne0, z_00, z_10, z_01, z_11, z_neg1, z_nI_NONE, z_div, z_rem, z_rem2, sw_pu_s, sw_pu_n, true_and, and_true, true_or, or_true, if_true, if_false, not_true_eq_false, not_false_eq_true, r0, r1, kd112, e1, q1, q2, eq_self]

theorem lw_13 (hO : OK T I π ρ τ θ) (hC : RC T I π ρ τ ft sv θ M) (hM : RM T I π ρ τ ft sv θ M) {L i : Nat} (h3 : M 113 0 = nI L) (hL : L < 2 ^ 30) (hi : i + 6 ≤ L) (hx : (M 112 i &&& nI 63).toInt = 13) : Lstp d L i M := by
  obtain ⟨M1, M2, r, a1, e1, e2, e3, e4, q1, q2⟩ := opp_run (d := d) (o_bed (M 112 (i + 1)) (M 112 (i + 2))) hO hC hM
  have hp : sw_pick [0, 1, 2, 3, 4, 5, 6, 7, 8, 9, 10, 11, 12, 13, 14, 15, 16, 17, 18, 19, 20, 21, 22, 23, 24, 25, 26, 27, 28, 29, 30, 31, 32] [180, 223, 266, 329, 352, 375, 388, 401, 424, 457, 480, 503, 516, 549, 582, 615, 648, 671, 694, 717, 750, 793, 826, 889, 932, 975, 998, 1021, 1044, 1077, 1110, 1133, 1156, 1169] 13 = 549 := by decide
  have r0 := rl_L h3 hL
  have r1 := rl_L (M := M1) (by rw [e2]; exact h3) hL
  have kd := kd112
  refine ⟨M2, a1, by rw [e4]; exact h3, fun Q => ?_⟩
  rw [lw_head h3 hL hi, hx, hp]
  simp (disch := omega) only [s225_549, s225_550, s225_551, s225_552, s225_553, s225_554, s225_555, s225_556, s225_557, s225_558, s225_559, s225_560, s225_563, s225_564, s225_565, s225_566, s225_567, s225_568, s225_569, s225_570, s225_571, s225_572, s225_573, s225_574, s225_577, s225_580, s225_581, s225_1169, s225_1172, z_lt_t, z_lt_f, z_le_t, z_le_f, z_lt0, z_ge0, z_cl, z_in, z_add, z_eq_f, z_ne0, z_00, z_10, z_01, z_11, z_neg1, z_nI_NONE, z_div, z_rem, z_rem2, sw_pu_s, sw_pu_n, true_and, and_true, true_or, or_true, if_true, if_false, not_true_eq_false, not_false_eq_true, r0, r1, kd112, e1, q1, q2, eq_self]

theorem lw_14 (hO : OK T I π ρ τ θ) (hC : RC T I π ρ τ ft sv θ M) (hM : RM T I π ρ τ ft sv θ M) {L i : Nat} (h3 : M 113 0 = nI L) (hL : L < 2 ^ 30) (hi : i + 6 ≤ L) (hx : (M 112 i &&& nI 63).toInt = 14) : Lstp d L i M := by
  obtain ⟨M1, M2, r, a1, e1, e2, e3, e4, q1, q2⟩ := opp_run (d := d) (o_grinds (M 112 (i + 1)) (M 112 (i + 2))) hO hC hM
  have hp : sw_pick [0, 1, 2, 3, 4, 5, 6, 7, 8, 9, 10, 11, 12, 13, 14, 15, 16, 17, 18, 19, 20, 21, 22, 23, 24, 25, 26, 27, 28, 29, 30, 31, 32] [180, 223, 266, 329, 352, 375, 388, 401, 424, 457, 480, 503, 516, 549, 582, 615, 648, 671, 694, 717, 750, 793, 826, 889, 932, 975, 998, 1021, 1044, 1077, 1110, 1133, 1156, 1169] 14 = 582 := by decide
  have r0 := rl_L h3 hL
  have r1 := rl_L (M := M1) (by rw [e2]; exact h3) hL
  have kd := kd112
  refine ⟨M2, a1, by rw [e4]; exact h3, fun Q => ?_⟩
  rw [lw_head h3 hL hi, hx, hp]
  simp (disch := omega) only [s225_582, s225_583, s225_584, s225_585, s225_586, s225_587, s225_588, s225_589, s225_590, s225_591, s225_592, s225_593, s225_596, s225_597, s225_598, s225_599, s225_600, s225_601, s225_602, s225_603, s225_604, s225_605, s225_606, s225_607, s225_610, s225_613, s225_614, s225_1169, s225_1172, z_lt_t, z_lt_f, z_le_t, z_le_f, z_lt0, z_ge0, z_cl, z_in, z_add, z_eq_f, z_ne0, z_00, z_10, z_01, z_11, z_neg1, z_nI_NONE, z_div, z_rem, z_rem2, sw_pu_s, sw_pu_n, true_and, and_true, true_or, or_true, if_true, if_false, not_true_eq_false, not_false_eq_true, r0, r1, kd112, e1, q1, q2, eq_self]

theorem lw_15 (hO : OK T I π ρ τ θ) (hC : RC T I π ρ τ ft sv θ M) (hM : RM T I π ρ τ ft sv θ M) {L i : Nat} (h3 : M 113 0 = nI L) (hL : L < 2 ^ 30) (hi : i + 6 ≤ L) (hx : (M 112 i &&& nI 63).toInt = 15) : Lstp d L i M := by
  obtain ⟨M1, M2, r, a1, e1, e2, e3, e4, q1, q2⟩ := opp_run (d := d) (o_flour (M 112 (i + 1)) (M 112 (i + 2))) hO hC hM
  have hp : sw_pick [0, 1, 2, 3, 4, 5, 6, 7, 8, 9, 10, 11, 12, 13, 14, 15, 16, 17, 18, 19, 20, 21, 22, 23, 24, 25, 26, 27, 28, 29, 30, 31, 32] [180, 223, 266, 329, 352, 375, 388, 401, 424, 457, 480, 503, 516, 549, 582, 615, 648, 671, 694, 717, 750, 793, 826, 889, 932, 975, 998, 1021, 1044, 1077, 1110, 1133, 1156, 1169] 15 = 615 := by decide
  have r0 := rl_L h3 hL
  have r1 := rl_L (M := M1) (by rw [e2]; exact h3) hL
  have kd := kd112
  refine ⟨M2, a1, by rw [e4]; exact h3, fun Q => ?_⟩
  rw [lw_head h3 hL hi, hx, hp]
  simp (disch := omega) only [s225_615, s225_616, s225_617, s225_618, s225_619, s225_620, s225_621, s225_622, s225_623, s225_624, s225_625, s225_626, s225_629, s225_630, s225_631, s225_632, s225_633, s225_634, s225_635, s225_636, s225_637, s225_638, s225_639, s225_640, s225_643, s225_646, s225_647, s225_1169, s225_1172, z_lt_t, z_lt_f, z_le_t, z_le_f, z_lt0, z_ge0, z_cl, z_in, z_add, z_eq_f, z_ne0, z_00, z_10, z_01, z_11, z_neg1, z_nI_NONE, z_div, z_rem, z_rem2, sw_pu_s, sw_pu_n, true_and, and_true, true_or, or_true, if_true, if_false, not_true_eq_false, not_false_eq_true, r0, r1, kd112, e1, q1, q2, eq_self]

theorem lw_16 (hO : OK T I π ρ τ θ) (hC : RC T I π ρ τ ft sv θ M) (hM : RM T I π ρ τ ft sv θ M) {L i : Nat} (h3 : M 113 0 = nI L) (hL : L < 2 ^ 30) (hi : i + 6 ≤ L) (hx : (M 112 i &&& nI 63).toInt = 16) : Lstp d L i M := by
  obtain ⟨M1, M2, r, a1, e1, e2, e3, e4, q1, q2⟩ := opp_run (d := d) (o_flourOfAll (M 112 (i + 1))) hO hC hM
  have hp : sw_pick [0, 1, 2, 3, 4, 5, 6, 7, 8, 9, 10, 11, 12, 13, 14, 15, 16, 17, 18, 19, 20, 21, 22, 23, 24, 25, 26, 27, 28, 29, 30, 31, 32] [180, 223, 266, 329, 352, 375, 388, 401, 424, 457, 480, 503, 516, 549, 582, 615, 648, 671, 694, 717, 750, 793, 826, 889, 932, 975, 998, 1021, 1044, 1077, 1110, 1133, 1156, 1169] 16 = 648 := by decide
  have r0 := rl_L h3 hL
  have r1 := rl_L (M := M1) (by rw [e2]; exact h3) hL
  have kd := kd112
  refine ⟨M2, a1, by rw [e4]; exact h3, fun Q => ?_⟩
  rw [lw_head h3 hL hi, hx, hp]
  simp (disch := omega) only [s225_648, s225_649, s225_650, s225_651, s225_652, s225_653, s225_654, s225_657, s225_658, s225_659, s225_660, s225_661, s225_662, s225_663, s225_666, s225_669, s225_670, s225_1169, s225_1172, z_lt_t, z_lt_f, z_le_t, z_le_f, z_lt0, z_ge0, z_cl, z_in, z_add, z_eq_f, z_ne0, z_00, z_10, z_01, z_11, z_neg1, z_nI_NONE, z_div, z_rem, z_rem2, sw_pu_s, sw_pu_n, true_and, and_true, true_or, or_true, if_true, if_false, not_true_eq_false, not_false_eq_true, r0, r1, kd112, e1, q1, q2, eq_self]

theorem lw_17 (hO : OK T I π ρ τ θ) (hC : RC T I π ρ τ ft sv θ M) (hM : RM T I π ρ τ ft sv θ M) {L i : Nat} (h3 : M 113 0 = nI L) (hL : L < 2 ^ 30) (hi : i + 6 ≤ L) (hx : (M 112 i &&& nI 63).toInt = 17) : Lstp d L i M := by
  obtain ⟨M1, M2, r, a1, e1, e2, e3, e4, q1, q2⟩ := opp_run (d := d) (o_blocks (M 112 (i + 1))) hO hC hM
  have hp : sw_pick [0, 1, 2, 3, 4, 5, 6, 7, 8, 9, 10, 11, 12, 13, 14, 15, 16, 17, 18, 19, 20, 21, 22, 23, 24, 25, 26, 27, 28, 29, 30, 31, 32] [180, 223, 266, 329, 352, 375, 388, 401, 424, 457, 480, 503, 516, 549, 582, 615, 648, 671, 694, 717, 750, 793, 826, 889, 932, 975, 998, 1021, 1044, 1077, 1110, 1133, 1156, 1169] 17 = 671 := by decide
  have r0 := rl_L h3 hL
  have r1 := rl_L (M := M1) (by rw [e2]; exact h3) hL
  have kd := kd112
  refine ⟨M2, a1, by rw [e4]; exact h3, fun Q => ?_⟩
  rw [lw_head h3 hL hi, hx, hp]
  simp (disch := omega) only [s225_671, s225_672, s225_673, s225_674, s225_675, s225_676, s225_677, s225_680, s225_681, s225_682, s225_683, s225_684, s225_685, s225_686, s225_689, s225_692, s225_693, s225_1169, s225_1172, z_lt_t, z_lt_f, z_le_t, z_le_f, z_lt0, z_ge0, z_cl, z_in, z_add, z_eq_f, z_ne0, z_00, z_10, z_01, z_11, z_neg1, z_nI_NONE, z_div, z_rem, z_rem2, sw_pu_s, sw_pu_n, true_and, and_true, true_or, or_true, if_true, if_false, not_true_eq_false, not_false_eq_true, r0, r1, kd112, e1, q1, q2, eq_self]

theorem lw_18 (hO : OK T I π ρ τ θ) (hC : RC T I π ρ τ ft sv θ M) (hM : RM T I π ρ τ ft sv θ M) {L i : Nat} (h3 : M 113 0 = nI L) (hL : L < 2 ^ 30) (hi : i + 6 ≤ L) (hx : (M 112 i &&& nI 63).toInt = 18) : Lstp d L i M := by
  obtain ⟨M1, M2, r, a1, e1, e2, e3, e4, q1, q2⟩ := opp_run (d := d) (o_stable (M 112 (i + 1))) hO hC hM
  have hp : sw_pick [0, 1, 2, 3, 4, 5, 6, 7, 8, 9, 10, 11, 12, 13, 14, 15, 16, 17, 18, 19, 20, 21, 22, 23, 24, 25, 26, 27, 28, 29, 30, 31, 32] [180, 223, 266, 329, 352, 375, 388, 401, 424, 457, 480, 503, 516, 549, 582, 615, 648, 671, 694, 717, 750, 793, 826, 889, 932, 975, 998, 1021, 1044, 1077, 1110, 1133, 1156, 1169] 18 = 694 := by decide
  have r0 := rl_L h3 hL
  have r1 := rl_L (M := M1) (by rw [e2]; exact h3) hL
  have kd := kd112
  refine ⟨M2, a1, by rw [e4]; exact h3, fun Q => ?_⟩
  rw [lw_head h3 hL hi, hx, hp]
  simp (disch := omega) only [s225_694, s225_695, s225_696, s225_697, s225_698, s225_699, s225_700, s225_703, s225_704, s225_705, s225_706, s225_707, s225_708, s225_709, s225_712, s225_715, s225_716, s225_1169, s225_1172, z_lt_t, z_lt_f, z_le_t, z_le_f, z_lt0, z_ge0, z_cl, z_in, z_add, z_eq_f, z_ne0, z_00, z_10, z_01, z_11, z_neg1, z_nI_NONE, z_div, z_rem, z_rem2, sw_pu_s, sw_pu_n, true_and, and_true, true_or, or_true, if_true, if_false, not_true_eq_false, not_false_eq_true, r0, r1, kd112, e1, q1, q2, eq_self]

theorem lw_19 (hO : OK T I π ρ τ θ) (hC : RC T I π ρ τ ft sv θ M) (hM : RM T I π ρ τ ft sv θ M) {L i : Nat} (h3 : M 113 0 = nI L) (hL : L < 2 ^ 30) (hi : i + 6 ≤ L) (hx : (M 112 i &&& nI 63).toInt = 19) : Lstp d L i M := by
  obtain ⟨M1, M2, r, a1, e1, e2, e3, e4, q1, q2⟩ := opp_run (d := d) (o_most (M 112 (i + 1)) (M 112 (i + 2))) hO hC hM
  have hp : sw_pick [0, 1, 2, 3, 4, 5, 6, 7, 8, 9, 10, 11, 12, 13, 14, 15, 16, 17, 18, 19, 20, 21, 22, 23, 24, 25, 26, 27, 28, 29, 30, 31, 32] [180, 223, 266, 329, 352, 375, 388, 401, 424, 457, 480, 503, 516, 549, 582, 615, 648, 671, 694, 717, 750, 793, 826, 889, 932, 975, 998, 1021, 1044, 1077, 1110, 1133, 1156, 1169] 19 = 717 := by decide
  have r0 := rl_L h3 hL
  have r1 := rl_L (M := M1) (by rw [e2]; exact h3) hL
  have kd := kd112
  refine ⟨M2, a1, by rw [e4]; exact h3, fun Q => ?_⟩
  rw [lw_head h3 hL hi, hx, hp]
  simp (disch := omega) only [s225_717, s225_718, s225_719, s225_720, s225_721, s225_722, s225_723, s225_724, s225_725, s225_726, s225_727, s225_728, s225_731, s225_732, s225_733, s225_734, s225_735, s225_736, s225_737, s225_738, s225_739, s225_740, s225_741, s225_742, s225_745, s225_748, s225_749, s225_1169, s225_1172, z_lt_t, z_lt_f, z_le_t, z_le_f, z_lt0, z_ge0, z_cl, z_in, z_add, z_eq_f, z_ne0, z_00, z_10, z_01, z_11, z_neg1, z_nI_NONE, z_div, z_rem, z_rem2, sw_pu_s, sw_pu_n, true_and, and_true, true_or, or_true, if_true, if_false, not_true_eq_false, not_false_eq_true, r0, r1, kd112, e1, q1, q2, eq_self]

theorem lw_20 (hO : OK T I π ρ τ θ) (hC : RC T I π ρ τ ft sv θ M) (hM : RM T I π ρ τ ft sv θ M) {L i : Nat} (h3 : M 113 0 = nI L) (hL : L < 2 ^ 30) (hi : i + 6 ≤ L) (hx : (M 112 i &&& nI 63).toInt = 20) : Lstp d L i M := by
  obtain ⟨M1, M2, r, a1, e1, e2, e3, e4, q1, q2⟩ := opp_run (d := d) (o_moved (M 112 (i + 1)) (M 112 (i + 2)) (M 112 (i + 3))) hO hC hM
  have hp : sw_pick [0, 1, 2, 3, 4, 5, 6, 7, 8, 9, 10, 11, 12, 13, 14, 15, 16, 17, 18, 19, 20, 21, 22, 23, 24, 25, 26, 27, 28, 29, 30, 31, 32] [180, 223, 266, 329, 352, 375, 388, 401, 424, 457, 480, 503, 516, 549, 582, 615, 648, 671, 694, 717, 750, 793, 826, 889, 932, 975, 998, 1021, 1044, 1077, 1110, 1133, 1156, 1169] 20 = 750 := by decide
  have r0 := rl_L h3 hL
  have r1 := rl_L (M := M1) (by rw [e2]; exact h3) hL
  have kd := kd112
  refine ⟨M2, a1, by rw [e4]; exact h3, fun Q => ?_⟩
  rw [lw_head h3 hL hi, hx, hp]
  simp (disch := omega) only [s225_750, s225_751, s225_752, s225_753, s225_754, s225_755, s225_756, s225_757, s225_758, s225_759, s225_760, s225_761, s225_762, s225_763, s225_764, s225_765, s225_766, s225_769, s225_770, s225_771, s225_772, s225_773, s225_774, s225_775, s225_776, s225_777, s225_778, s225_779, s225_780, s225_781, s225_782, s225_783, s225_784, s225_785, s225_788, s225_791, s225_792, s225_1169, s225_1172, z_lt_t, z_lt_f, z_le_t, z_le_f, z_lt0, z_ge0, z_cl, z_in, z_add, z_eq_f, z_ne0, z_00, z_10, z_01, z_11, z_neg1, z_nI_NONE, z_div, z_rem, z_rem2, sw_pu_s, sw_pu_n, true_and, and_true, true_or, or_true, if_true, if_false, not_true_eq_false, not_false_eq_true, r0, r1, kd112, e1, q1, q2, eq_self]

theorem lw_21 (hO : OK T I π ρ τ θ) (hC : RC T I π ρ τ ft sv θ M) (hM : RM T I π ρ τ ft sv θ M) {L i : Nat} (h3 : M 113 0 = nI L) (hL : L < 2 ^ 30) (hi : i + 6 ≤ L) (hx : (M 112 i &&& nI 63).toInt = 21) : Lstp d L i M := by
  obtain ⟨M1, M2, r, a1, e1, e2, e3, e4, q1, q2⟩ := opp_run (d := d) (o_dressing (M 112 (i + 1)) (M 112 (i + 2))) hO hC hM
  have hp : sw_pick [0, 1, 2, 3, 4, 5, 6, 7, 8, 9, 10, 11, 12, 13, 14, 15, 16, 17, 18, 19, 20, 21, 22, 23, 24, 25, 26, 27, 28, 29, 30, 31, 32] [180, 223, 266, 329, 352, 375, 388, 401, 424, 457, 480, 503, 516, 549, 582, 615, 648, 671, 694, 717, 750, 793, 826, 889, 932, 975, 998, 1021, 1044, 1077, 1110, 1133, 1156, 1169] 21 = 793 := by decide
  have r0 := rl_L h3 hL
  have r1 := rl_L (M := M1) (by rw [e2]; exact h3) hL
  have kd := kd112
  refine ⟨M2, a1, by rw [e4]; exact h3, fun Q => ?_⟩
  rw [lw_head h3 hL hi, hx, hp]
  simp (disch := omega) only [s225_793, s225_794, s225_795, s225_796, s225_797, s225_798, s225_799, s225_800, s225_801, s225_802, s225_803, s225_804, s225_807, s225_808, s225_809, s225_810, s225_811, s225_812, s225_813, s225_814, s225_815, s225_816, s225_817, s225_818, s225_821, s225_824, s225_825, s225_1169, s225_1172, z_lt_t, z_lt_f, z_le_t, z_le_f, z_lt0, z_ge0, z_cl, z_in, z_add, z_eq_f, z_ne0, z_00, z_10, z_01, z_11, z_neg1, z_nI_NONE, z_div, z_rem, z_rem2, sw_pu_s, sw_pu_n, true_and, and_true, true_or, or_true, if_true, if_false, not_true_eq_false, not_false_eq_true, r0, r1, kd112, e1, q1, q2, eq_self]

theorem lw_22 (hO : OK T I π ρ τ θ) (hC : RC T I π ρ τ ft sv θ M) (hM : RM T I π ρ τ ft sv θ M) {L i : Nat} (h3 : M 113 0 = nI L) (hL : L < 2 ^ 30) (hi : i + 6 ≤ L) (hx : (M 112 i &&& nI 63).toInt = 22) : Lstp d L i M := by
  obtain ⟨M1, M2, r, a1, e1, e2, e3, e4, q1, q2⟩ := opp_run (d := d) (o_fits (M 112 (i + 1)) (M 112 (i + 2)) (M 112 (i + 3)) (M 112 (i + 4)) (M 112 (i + 5))) hO hC hM
  have hp : sw_pick [0, 1, 2, 3, 4, 5, 6, 7, 8, 9, 10, 11, 12, 13, 14, 15, 16, 17, 18, 19, 20, 21, 22, 23, 24, 25, 26, 27, 28, 29, 30, 31, 32] [180, 223, 266, 329, 352, 375, 388, 401, 424, 457, 480, 503, 516, 549, 582, 615, 648, 671, 694, 717, 750, 793, 826, 889, 932, 975, 998, 1021, 1044, 1077, 1110, 1133, 1156, 1169] 22 = 826 := by decide
  have r0 := rl_L h3 hL
  have r1 := rl_L (M := M1) (by rw [e2]; exact h3) hL
  have kd := kd112
  refine ⟨M2, a1, by rw [e4]; exact h3, fun Q => ?_⟩
  rw [lw_head h3 hL hi, hx, hp]
  simp (disch := omega) only [s225_826, s225_827, s225_828, s225_829, s225_830, s225_831, s225_832, s225_833, s225_834, s225_835, s225_836, s225_837, s225_838, s225_839, s225_840, s225_841, s225_842, s225_843, s225_844, s225_845, s225_846, s225_847, s225_848, s225_849, s225_850, s225_851, s225_852, s225_855, s225_856, s225_857, s225_858, s225_859, s225_860, s225_861, s225_862, s225_863, s225_864, s225_865, s225_866, s225_867, s225_868, s225_869, s225_870, s225_871, s225_872, s225_873, s225_874, s225_875, s225_876, s225_877, s225_878, s225_879, s225_880, s225_881, s225_884, s225_887, s225_888, s225_1169, s225_1172, z_lt_t, z_lt_f, z_le_t, z_le_f, z_lt0, z_ge0, z_cl, z_in, z_add, z_eq_f, z_ne0, z_00, z_10, z_01, z_11, z_neg1, z_nI_NONE, z_div, z_rem, z_rem2, sw_pu_s, sw_pu_n, true_and, and_true, true_or, or_true, if_true, if_false, not_true_eq_false, not_false_eq_true, r0, r1, kd112, e1, q1, q2, eq_self]

theorem lw_23 (hO : OK T I π ρ τ θ) (hC : RC T I π ρ τ ft sv θ M) (hM : RM T I π ρ τ ft sv θ M) {L i : Nat} (h3 : M 113 0 = nI L) (hL : L < 2 ^ 30) (hi : i + 6 ≤ L) (hx : (M 112 i &&& nI 63).toInt = 23) : Lstp d L i M := by
  obtain ⟨M1, M2, r, a1, e1, e2, e3, e4, q1, q2⟩ := opp_run (d := d) (o_breaks (M 112 (i + 1)) (M 112 (i + 2)) (M 112 (i + 3))) hO hC hM
  have hp : sw_pick [0, 1, 2, 3, 4, 5, 6, 7, 8, 9, 10, 11, 12, 13, 14, 15, 16, 17, 18, 19, 20, 21, 22, 23, 24, 25, 26, 27, 28, 29, 30, 31, 32] [180, 223, 266, 329, 352, 375, 388, 401, 424, 457, 480, 503, 516, 549, 582, 615, 648, 671, 694, 717, 750, 793, 826, 889, 932, 975, 998, 1021, 1044, 1077, 1110, 1133, 1156, 1169] 23 = 889 := by decide
  have r0 := rl_L h3 hL
  have r1 := rl_L (M := M1) (by rw [e2]; exact h3) hL
  have kd := kd112
  refine ⟨M2, a1, by rw [e4]; exact h3, fun Q => ?_⟩
  rw [lw_head h3 hL hi, hx, hp]
  simp (disch := omega) only [s225_889, s225_890, s225_891, s225_892, s225_893, s225_894, s225_895, s225_896, s225_897, s225_898, s225_899, s225_900, s225_901, s225_902, s225_903, s225_904, s225_905, s225_908, s225_909, s225_910, s225_911, s225_912, s225_913, s225_914, s225_915, s225_916, s225_917, s225_918, s225_919, s225_920, s225_921, s225_922, s225_923, s225_924, s225_927, s225_930, s225_931, s225_1169, s225_1172, z_lt_t, z_lt_f, z_le_t, z_le_f, z_lt0, z_ge0, z_cl, z_in, z_add, z_eq_f, z_ne0, z_00, z_10, z_01, z_11, z_neg1, z_nI_NONE, z_div, z_rem, z_rem2, sw_pu_s, sw_pu_n, true_and, and_true, true_or, or_true, if_true, if_false, not_true_eq_false, not_false_eq_true, r0, r1, kd112, e1, q1, q2, eq_self]

theorem lw_24 (hO : OK T I π ρ τ θ) (hC : RC T I π ρ τ ft sv θ M) (hM : RM T I π ρ τ ft sv θ M) {L i : Nat} (h3 : M 113 0 = nI L) (hL : L < 2 ^ 30) (hi : i + 6 ≤ L) (hx : (M 112 i &&& nI 63).toInt = 24) : Lstp d L i M := by
  obtain ⟨M1, M2, r, a1, e1, e2, e3, e4, q1, q2⟩ := opp_run (d := d) (o_drawn (M 112 (i + 1)) (M 112 (i + 2)) (M 112 (i + 3))) hO hC hM
  have hp : sw_pick [0, 1, 2, 3, 4, 5, 6, 7, 8, 9, 10, 11, 12, 13, 14, 15, 16, 17, 18, 19, 20, 21, 22, 23, 24, 25, 26, 27, 28, 29, 30, 31, 32] [180, 223, 266, 329, 352, 375, 388, 401, 424, 457, 480, 503, 516, 549, 582, 615, 648, 671, 694, 717, 750, 793, 826, 889, 932, 975, 998, 1021, 1044, 1077, 1110, 1133, 1156, 1169] 24 = 932 := by decide
  have r0 := rl_L h3 hL
  have r1 := rl_L (M := M1) (by rw [e2]; exact h3) hL
  have kd := kd112
  refine ⟨M2, a1, by rw [e4]; exact h3, fun Q => ?_⟩
  rw [lw_head h3 hL hi, hx, hp]
  simp (disch := omega) only [s225_932, s225_933, s225_934, s225_935, s225_936, s225_937, s225_938, s225_939, s225_940, s225_941, s225_942, s225_943, s225_944, s225_945, s225_946, s225_947, s225_948, s225_951, s225_952, s225_953, s225_954, s225_955, s225_956, s225_957, s225_958, s225_959, s225_960, s225_961, s225_962, s225_963, s225_964, s225_965, s225_966, s225_967, s225_970, s225_973, s225_974, s225_1169, s225_1172, z_lt_t, z_lt_f, z_le_t, z_le_f, z_lt0, z_ge0, z_cl, z_in, z_add, z_eq_f, z_ne0, z_00, z_10, z_01, z_11, z_neg1, z_nI_NONE, z_div, z_rem, z_rem2, sw_pu_s, sw_pu_n, true_and, and_true, true_or, or_true, if_true, if_false, not_true_eq_false, not_false_eq_true, r0, r1, kd112, e1, q1, q2, eq_self]

theorem lw_25 (hO : OK T I π ρ τ θ) (hC : RC T I π ρ τ ft sv θ M) (hM : RM T I π ρ τ ft sv θ M) {L i : Nat} (h3 : M 113 0 = nI L) (hL : L < 2 ^ 30) (hi : i + 6 ≤ L) (hx : (M 112 i &&& nI 63).toInt = 25) : Lstp d L i M := by
  obtain ⟨M1, M2, r, a1, e1, e2, e3, e4, q1, q2⟩ := opp_run (d := d) (o_image (M 112 (i + 1))) hO hC hM
  have hp : sw_pick [0, 1, 2, 3, 4, 5, 6, 7, 8, 9, 10, 11, 12, 13, 14, 15, 16, 17, 18, 19, 20, 21, 22, 23, 24, 25, 26, 27, 28, 29, 30, 31, 32] [180, 223, 266, 329, 352, 375, 388, 401, 424, 457, 480, 503, 516, 549, 582, 615, 648, 671, 694, 717, 750, 793, 826, 889, 932, 975, 998, 1021, 1044, 1077, 1110, 1133, 1156, 1169] 25 = 975 := by decide
  have r0 := rl_L h3 hL
  have r1 := rl_L (M := M1) (by rw [e2]; exact h3) hL
  have kd := kd112
  refine ⟨M2, a1, by rw [e4]; exact h3, fun Q => ?_⟩
  rw [lw_head h3 hL hi, hx, hp]
  simp (disch := omega) only [s225_975, s225_976, s225_977, s225_978, s225_979, s225_980, s225_981, s225_984, s225_985, s225_986, s225_987, s225_988, s225_989, s225_990, s225_993, s225_996, s225_997, s225_1169, s225_1172, z_lt_t, z_lt_f, z_le_t, z_le_f, z_lt0, z_ge0, z_cl, z_in, z_add, z_eq_f, z_ne0, z_00, z_10, z_01, z_11, z_neg1, z_nI_NONE, z_div, z_rem, z_rem2, sw_pu_s, sw_pu_n, true_and, and_true, true_or, or_true, if_true, if_false, not_true_eq_false, not_false_eq_true, r0, r1, kd112, e1, q1, q2, eq_self]

theorem lw_26 (hO : OK T I π ρ τ θ) (hC : RC T I π ρ τ ft sv θ M) (hM : RM T I π ρ τ ft sv θ M) {L i : Nat} (h3 : M 113 0 = nI L) (hL : L < 2 ^ 30) (hi : i + 6 ≤ L) (hx : (M 112 i &&& nI 63).toInt = 26) : Lstp d L i M := by
  obtain ⟨M1, M2, r, a1, e1, e2, e3, e4, q1, q2⟩ := opp_run (d := d) (o_restore (M 112 (i + 1))) hO hC hM
  have hp : sw_pick [0, 1, 2, 3, 4, 5, 6, 7, 8, 9, 10, 11, 12, 13, 14, 15, 16, 17, 18, 19, 20, 21, 22, 23, 24, 25, 26, 27, 28, 29, 30, 31, 32] [180, 223, 266, 329, 352, 375, 388, 401, 424, 457, 480, 503, 516, 549, 582, 615, 648, 671, 694, 717, 750, 793, 826, 889, 932, 975, 998, 1021, 1044, 1077, 1110, 1133, 1156, 1169] 26 = 998 := by decide
  have r0 := rl_L h3 hL
  have r1 := rl_L (M := M1) (by rw [e2]; exact h3) hL
  have kd := kd112
  refine ⟨M2, a1, by rw [e4]; exact h3, fun Q => ?_⟩
  rw [lw_head h3 hL hi, hx, hp]
  simp (disch := omega) only [s225_998, s225_999, s225_1000, s225_1001, s225_1002, s225_1003, s225_1004, s225_1007, s225_1008, s225_1009, s225_1010, s225_1011, s225_1012, s225_1013, s225_1016, s225_1019, s225_1020, s225_1169, s225_1172, z_lt_t, z_lt_f, z_le_t, z_le_f, z_lt0, z_ge0, z_cl, z_in, z_add, z_eq_f, z_ne0, z_00, z_10, z_01, z_11, z_neg1, z_nI_NONE, z_div, z_rem, z_rem2, sw_pu_s, sw_pu_n, true_and, and_true, true_or, or_true, if_true, if_false, not_true_eq_false, not_false_eq_true, r0, r1, kd112, e1, q1, q2, eq_self]

theorem lw_27 (hO : OK T I π ρ τ θ) (hC : RC T I π ρ τ ft sv θ M) (hM : RM T I π ρ τ ft sv θ M) {L i : Nat} (h3 : M 113 0 = nI L) (hL : L < 2 ^ 30) (hi : i + 6 ≤ L) (hx : (M 112 i &&& nI 63).toInt = 27) : Lstp d L i M := by
  obtain ⟨M1, M2, r, a1, e1, e2, e3, e4, q1, q2⟩ := opp_run (d := d) (o_kind (M 112 (i + 1))) hO hC hM
  have hp : sw_pick [0, 1, 2, 3, 4, 5, 6, 7, 8, 9, 10, 11, 12, 13, 14, 15, 16, 17, 18, 19, 20, 21, 22, 23, 24, 25, 26, 27, 28, 29, 30, 31, 32] [180, 223, 266, 329, 352, 375, 388, 401, 424, 457, 480, 503, 516, 549, 582, 615, 648, 671, 694, 717, 750, 793, 826, 889, 932, 975, 998, 1021, 1044, 1077, 1110, 1133, 1156, 1169] 27 = 1021 := by decide
  have r0 := rl_L h3 hL
  have r1 := rl_L (M := M1) (by rw [e2]; exact h3) hL
  have kd := kd112
  refine ⟨M2, a1, by rw [e4]; exact h3, fun Q => ?_⟩
  rw [lw_head h3 hL hi, hx, hp]
  simp (disch := omega) only [s225_1021, s225_1022, s225_1023, s225_1024, s225_1025, s225_1026, s225_1027, s225_1030, s225_1031, s225_1032, s225_1033, s225_1034, s225_1035, s225_1036, s225_1039, s225_1042, s225_1043, s225_1169, s225_1172, z_lt_t, z_lt_f, z_le_t, z_le_f, z_lt0, z_ge0, z_cl, z_in, z_add, z_eq_f, z_ne0, z_00, z_10, z_01, z_11, z_neg1, z_nI_NONE, z_div, z_rem, z_rem2, sw_pu_s, sw_pu_n, true_and, and_true, true_or, or_true, if_true, if_false, not_true_eq_false, not_false_eq_true, r0, r1, kd112, e1, q1, q2, eq_self]

theorem lw_28 (hO : OK T I π ρ τ θ) (hC : RC T I π ρ τ ft sv θ M) (hM : RM T I π ρ τ ft sv θ M) {L i : Nat} (h3 : M 113 0 = nI L) (hL : L < 2 ^ 30) (hi : i + 6 ≤ L) (hx : (M 112 i &&& nI 63).toInt = 28) : Lstp d L i M := by
  obtain ⟨M1, M2, r, a1, e1, e2, e3, e4, q1, q2⟩ := opp_run (d := d) (o_as (M 112 (i + 1)) (M 112 (i + 2))) hO hC hM
  have hp : sw_pick [0, 1, 2, 3, 4, 5, 6, 7, 8, 9, 10, 11, 12, 13, 14, 15, 16, 17, 18, 19, 20, 21, 22, 23, 24, 25, 26, 27, 28, 29, 30, 31, 32] [180, 223, 266, 329, 352, 375, 388, 401, 424, 457, 480, 503, 516, 549, 582, 615, 648, 671, 694, 717, 750, 793, 826, 889, 932, 975, 998, 1021, 1044, 1077, 1110, 1133, 1156, 1169] 28 = 1044 := by decide
  have r0 := rl_L h3 hL
  have r1 := rl_L (M := M1) (by rw [e2]; exact h3) hL
  have kd := kd112
  refine ⟨M2, a1, by rw [e4]; exact h3, fun Q => ?_⟩
  rw [lw_head h3 hL hi, hx, hp]
  simp (disch := omega) only [s225_1044, s225_1045, s225_1046, s225_1047, s225_1048, s225_1049, s225_1050, s225_1051, s225_1052, s225_1053, s225_1054, s225_1055, s225_1058, s225_1059, s225_1060, s225_1061, s225_1062, s225_1063, s225_1064, s225_1065, s225_1066, s225_1067, s225_1068, s225_1069, s225_1072, s225_1075, s225_1076, s225_1169, s225_1172, z_lt_t, z_lt_f, z_le_t, z_le_f, z_lt0, z_ge0, z_cl, z_in, z_add, z_eq_f, z_ne0, z_00, z_10, z_01, z_11, z_neg1, z_nI_NONE, z_div, z_rem, z_rem2, sw_pu_s, sw_pu_n, true_and, and_true, true_or, or_true, if_true, if_false, not_true_eq_false, not_false_eq_true, r0, r1, kd112, e1, q1, q2, eq_self]

theorem lw_29 (hO : OK T I π ρ τ θ) (hC : RC T I π ρ τ ft sv θ M) (hM : RM T I π ρ τ ft sv θ M) {L i : Nat} (h3 : M 113 0 = nI L) (hL : L < 2 ^ 30) (hi : i + 6 ≤ L) (hx : (M 112 i &&& nI 63).toInt = 29) : Lstp d L i M := by
  obtain ⟨M1, M2, r, a1, e1, e2, e3, e4, q1, q2⟩ := opp_run (d := d) (o_ask (M 112 (i + 1)) (M 112 (i + 2))) hO hC hM
  have hp : sw_pick [0, 1, 2, 3, 4, 5, 6, 7, 8, 9, 10, 11, 12, 13, 14, 15, 16, 17, 18, 19, 20, 21, 22, 23, 24, 25, 26, 27, 28, 29, 30, 31, 32] [180, 223, 266, 329, 352, 375, 388, 401, 424, 457, 480, 503, 516, 549, 582, 615, 648, 671, 694, 717, 750, 793, 826, 889, 932, 975, 998, 1021, 1044, 1077, 1110, 1133, 1156, 1169] 29 = 1077 := by decide
  have r0 := rl_L h3 hL
  have r1 := rl_L (M := M1) (by rw [e2]; exact h3) hL
  have kd := kd112
  refine ⟨M2, a1, by rw [e4]; exact h3, fun Q => ?_⟩
  rw [lw_head h3 hL hi, hx, hp]
  simp (disch := omega) only [s225_1077, s225_1078, s225_1079, s225_1080, s225_1081, s225_1082, s225_1083, s225_1084, s225_1085, s225_1086, s225_1087, s225_1088, s225_1091, s225_1092, s225_1093, s225_1094, s225_1095, s225_1096, s225_1097, s225_1098, s225_1099, s225_1100, s225_1101, s225_1102, s225_1105, s225_1108, s225_1109, s225_1169, s225_1172, z_lt_t, z_lt_f, z_le_t, z_le_f, z_lt0, z_ge0, z_cl, z_in, z_add, z_eq_f, z_ne0, z_00, z_10, z_01, z_11, z_neg1, z_nI_NONE, z_div, z_rem, z_rem2, sw_pu_s, sw_pu_n, true_and, and_true, true_or, or_true, if_true, if_false, not_true_eq_false, not_false_eq_true, r0, r1, kd112, e1, q1, q2, eq_self]

theorem lw_30 (hO : OK T I π ρ τ θ) (hC : RC T I π ρ τ ft sv θ M) (hM : RM T I π ρ τ ft sv θ M) {L i : Nat} (h3 : M 113 0 = nI L) (hL : L < 2 ^ 30) (hi : i + 6 ≤ L) (hx : (M 112 i &&& nI 63).toInt = 30) : Lstp d L i M := by
  obtain ⟨M1, M2, r, a1, e1, e2, e3, e4, q1, q2⟩ := opp_run (d := d) (o_trace (M 112 (i + 1))) hO hC hM
  have hp : sw_pick [0, 1, 2, 3, 4, 5, 6, 7, 8, 9, 10, 11, 12, 13, 14, 15, 16, 17, 18, 19, 20, 21, 22, 23, 24, 25, 26, 27, 28, 29, 30, 31, 32] [180, 223, 266, 329, 352, 375, 388, 401, 424, 457, 480, 503, 516, 549, 582, 615, 648, 671, 694, 717, 750, 793, 826, 889, 932, 975, 998, 1021, 1044, 1077, 1110, 1133, 1156, 1169] 30 = 1110 := by decide
  have r0 := rl_L h3 hL
  have r1 := rl_L (M := M1) (by rw [e2]; exact h3) hL
  have kd := kd112
  refine ⟨M2, a1, by rw [e4]; exact h3, fun Q => ?_⟩
  rw [lw_head h3 hL hi, hx, hp]
  simp (disch := omega) only [s225_1110, s225_1111, s225_1112, s225_1113, s225_1114, s225_1115, s225_1116, s225_1119, s225_1120, s225_1121, s225_1122, s225_1123, s225_1124, s225_1125, s225_1128, s225_1131, s225_1132, s225_1169, s225_1172, z_lt_t, z_lt_f, z_le_t, z_le_f, z_lt0, z_ge0, z_cl, z_in, z_add, z_eq_f, z_ne0, z_00, z_10, z_01, z_11, z_neg1, z_nI_NONE, z_div, z_rem, z_rem2, sw_pu_s, sw_pu_n, true_and, and_true, true_or, or_true, if_true, if_false, not_true_eq_false, not_false_eq_true, r0, r1, kd112, e1, q1, q2, eq_self]

theorem lw_31 (hO : OK T I π ρ τ θ) (hC : RC T I π ρ τ ft sv θ M) (hM : RM T I π ρ τ ft sv θ M) {L i : Nat} (h3 : M 113 0 = nI L) (hL : L < 2 ^ 30) (hi : i + 6 ≤ L) (hx : (M 112 i &&& nI 63).toInt = 31) : Lstp d L i M := by
  obtain ⟨M1, M2, r, a1, e1, e2, e3, e4, q1, q2⟩ := opp_run (d := d) (o_count (M 112 (i + 1))) hO hC hM
  have hp : sw_pick [0, 1, 2, 3, 4, 5, 6, 7, 8, 9, 10, 11, 12, 13, 14, 15, 16, 17, 18, 19, 20, 21, 22, 23, 24, 25, 26, 27, 28, 29, 30, 31, 32] [180, 223, 266, 329, 352, 375, 388, 401, 424, 457, 480, 503, 516, 549, 582, 615, 648, 671, 694, 717, 750, 793, 826, 889, 932, 975, 998, 1021, 1044, 1077, 1110, 1133, 1156, 1169] 31 = 1133 := by decide
  have r0 := rl_L h3 hL
  have r1 := rl_L (M := M1) (by rw [e2]; exact h3) hL
  have kd := kd112
  refine ⟨M2, a1, by rw [e4]; exact h3, fun Q => ?_⟩
  rw [lw_head h3 hL hi, hx, hp]
  simp (disch := omega) only [s225_1133, s225_1134, s225_1135, s225_1136, s225_1137, s225_1138, s225_1139, s225_1142, s225_1143, s225_1144, s225_1145, s225_1146, s225_1147, s225_1148, s225_1151, s225_1154, s225_1155, s225_1169, s225_1172, z_lt_t, z_lt_f, z_le_t, z_le_f, z_lt0, z_ge0, z_cl, z_in, z_add, z_eq_f, z_ne0, z_00, z_10, z_01, z_11, z_neg1, z_nI_NONE, z_div, z_rem, z_rem2, sw_pu_s, sw_pu_n, true_and, and_true, true_or, or_true, if_true, if_false, not_true_eq_false, not_false_eq_true, r0, r1, kd112, e1, q1, q2, eq_self]

theorem lw_32 (hO : OK T I π ρ τ θ) (hC : RC T I π ρ τ ft sv θ M) (hM : RM T I π ρ τ ft sv θ M) {L i : Nat} (h3 : M 113 0 = nI L) (hL : L < 2 ^ 30) (hi : i + 6 ≤ L) (hx : (M 112 i &&& nI 63).toInt = 32) : Lstp d L i M := by
  obtain ⟨M1, M2, r, a1, e1, e2, e3, e4, q1, q2⟩ := opp_run (d := d) (o_status) hO hC hM
  have hp : sw_pick [0, 1, 2, 3, 4, 5, 6, 7, 8, 9, 10, 11, 12, 13, 14, 15, 16, 17, 18, 19, 20, 21, 22, 23, 24, 25, 26, 27, 28, 29, 30, 31, 32] [180, 223, 266, 329, 352, 375, 388, 401, 424, 457, 480, 503, 516, 549, 582, 615, 648, 671, 694, 717, 750, 793, 826, 889, 932, 975, 998, 1021, 1044, 1077, 1110, 1133, 1156, 1169] 32 = 1156 := by decide
  have r0 := rl_L h3 hL
  have r1 := rl_L (M := M1) (by rw [e2]; exact h3) hL
  have kd := kd112
  refine ⟨M2, a1, by rw [e4]; exact h3, fun Q => ?_⟩
  rw [lw_head h3 hL hi, hx, hp]
  simp (disch := omega) only [s225_1156, s225_1157, s225_1160, s225_1161, s225_1164, s225_1167, s225_1168, s225_1169, s225_1172, z_lt_t, z_lt_f, z_le_t, z_le_f, z_lt0, z_ge0, z_cl, z_in, z_add, z_eq_f, z_ne0, z_00, z_10, z_01, z_11, z_neg1, z_nI_NONE, z_div, z_rem, z_rem2, sw_pu_s, sw_pu_n, true_and, and_true, true_or, or_true, if_true, if_false, not_true_eq_false, not_false_eq_true, r0, r1, kd112, e1, q1, q2, eq_self]

theorem lw_no (hO : OK T I π ρ τ θ) (hC : RC T I π ρ τ ft sv θ M) (hM : RM T I π ρ τ ft sv θ M) {L i : Nat} (h3 : M 113 0 = nI L) (hL : L < 2 ^ 30) (hi : i + 6 ≤ L) (hp : sw_pick [0, 1, 2, 3, 4, 5, 6, 7, 8, 9, 10, 11, 12, 13, 14, 15, 16, 17, 18, 19, 20, 21, 22, 23, 24, 25, 26, 27, 28, 29, 30, 31, 32] [180, 223, 266, 329, 352, 375, 388, 401, 424, 457, 480, 503, 516, 549, 582, 615, 648, 671, 694, 717, 750, 793, 826, 889, 932, 975, 998, 1021, 1044, 1077, 1110, 1133, 1156, 1169] (M 112 i &&& nI 63).toInt = 1169) : Lstp d L i M := by
  refine ⟨M, ⟨T, I, π, ρ, τ, ft, sv, θ, hO, hC, hM⟩, h3, fun Q => ?_⟩
  rw [lw_head h3 hL hi, hp]
  simp (disch := omega) only [s225_1169, s225_1172, z_lt_t, z_lt_f, z_le_t, z_le_f, z_lt0, z_ge0, z_cl, z_in, z_add, z_eq_f, z_ne0, z_00, z_10, z_01, z_11, z_neg1, z_nI_NONE, z_div, z_rem, z_rem2, sw_pu_s, sw_pu_n, true_and, and_true, true_or, or_true, if_true, if_false, not_true_eq_false, not_false_eq_true]

theorem lw_step (hO : OK T I π ρ τ θ) (hC : RC T I π ρ τ ft sv θ M) (hM : RM T I π ρ τ ft sv θ M) {L i : Nat} (h3 : M 113 0 = nI L) (hL : L < 2 ^ 30) (hi : i + 6 ≤ L) : Lstp d L i M := by
  by_cases x0 : (M 112 i &&& nI 63).toInt = 0
  · exact lw_0 hO hC hM h3 hL hi x0
  by_cases x1 : (M 112 i &&& nI 63).toInt = 1
  · exact lw_1 hO hC hM h3 hL hi x1
  by_cases x2 : (M 112 i &&& nI 63).toInt = 2
  · exact lw_2 hO hC hM h3 hL hi x2
  by_cases x3 : (M 112 i &&& nI 63).toInt = 3
  · exact lw_3 hO hC hM h3 hL hi x3
  by_cases x4 : (M 112 i &&& nI 63).toInt = 4
  · exact lw_4 hO hC hM h3 hL hi x4
  by_cases x5 : (M 112 i &&& nI 63).toInt = 5
  · exact lw_5 hO hC hM h3 hL hi x5
  by_cases x6 : (M 112 i &&& nI 63).toInt = 6
  · exact lw_6 hO hC hM h3 hL hi x6
  by_cases x7 : (M 112 i &&& nI 63).toInt = 7
  · exact lw_7 hO hC hM h3 hL hi x7
  by_cases x8 : (M 112 i &&& nI 63).toInt = 8
  · exact lw_8 hO hC hM h3 hL hi x8
  by_cases x9 : (M 112 i &&& nI 63).toInt = 9
  · exact lw_9 hO hC hM h3 hL hi x9
  by_cases x10 : (M 112 i &&& nI 63).toInt = 10
  · exact lw_10 hO hC hM h3 hL hi x10
  by_cases x11 : (M 112 i &&& nI 63).toInt = 11
  · exact lw_11 hO hC hM h3 hL hi x11
  by_cases x12 : (M 112 i &&& nI 63).toInt = 12
  · exact lw_12 hO hC hM h3 hL hi x12
  by_cases x13 : (M 112 i &&& nI 63).toInt = 13
  · exact lw_13 hO hC hM h3 hL hi x13
  by_cases x14 : (M 112 i &&& nI 63).toInt = 14
  · exact lw_14 hO hC hM h3 hL hi x14
  by_cases x15 : (M 112 i &&& nI 63).toInt = 15
  · exact lw_15 hO hC hM h3 hL hi x15
  by_cases x16 : (M 112 i &&& nI 63).toInt = 16
  · exact lw_16 hO hC hM h3 hL hi x16
  by_cases x17 : (M 112 i &&& nI 63).toInt = 17
  · exact lw_17 hO hC hM h3 hL hi x17
  by_cases x18 : (M 112 i &&& nI 63).toInt = 18
  · exact lw_18 hO hC hM h3 hL hi x18
  by_cases x19 : (M 112 i &&& nI 63).toInt = 19
  · exact lw_19 hO hC hM h3 hL hi x19
  by_cases x20 : (M 112 i &&& nI 63).toInt = 20
  · exact lw_20 hO hC hM h3 hL hi x20
  by_cases x21 : (M 112 i &&& nI 63).toInt = 21
  · exact lw_21 hO hC hM h3 hL hi x21
  by_cases x22 : (M 112 i &&& nI 63).toInt = 22
  · exact lw_22 hO hC hM h3 hL hi x22
  by_cases x23 : (M 112 i &&& nI 63).toInt = 23
  · exact lw_23 hO hC hM h3 hL hi x23
  by_cases x24 : (M 112 i &&& nI 63).toInt = 24
  · exact lw_24 hO hC hM h3 hL hi x24
  by_cases x25 : (M 112 i &&& nI 63).toInt = 25
  · exact lw_25 hO hC hM h3 hL hi x25
  by_cases x26 : (M 112 i &&& nI 63).toInt = 26
  · exact lw_26 hO hC hM h3 hL hi x26
  by_cases x27 : (M 112 i &&& nI 63).toInt = 27
  · exact lw_27 hO hC hM h3 hL hi x27
  by_cases x28 : (M 112 i &&& nI 63).toInt = 28
  · exact lw_28 hO hC hM h3 hL hi x28
  by_cases x29 : (M 112 i &&& nI 63).toInt = 29
  · exact lw_29 hO hC hM h3 hL hi x29
  by_cases x30 : (M 112 i &&& nI 63).toInt = 30
  · exact lw_30 hO hC hM h3 hL hi x30
  by_cases x31 : (M 112 i &&& nI 63).toInt = 31
  · exact lw_31 hO hC hM h3 hL hi x31
  by_cases x32 : (M 112 i &&& nI 63).toInt = 32
  · exact lw_32 hO hC hM h3 hL hi x32
  refine lw_no hO hC hM h3 hL hi ?_
  generalize (M 112 i &&& nI 63).toInt = x at *
  rw [z_pk_s, if_neg x0, z_pk_s, if_neg x1, z_pk_s, if_neg x2, z_pk_s, if_neg x3, z_pk_s, if_neg x4, z_pk_s, if_neg x5, z_pk_s, if_neg x6, z_pk_s, if_neg x7, z_pk_s, if_neg x8, z_pk_s, if_neg x9, z_pk_s, if_neg x10, z_pk_s, if_neg x11, z_pk_s, if_neg x12, z_pk_s, if_neg x13, z_pk_s, if_neg x14, z_pk_s, if_neg x15, z_pk_s, if_neg x16, z_pk_s, if_neg x17, z_pk_s, if_neg x18, z_pk_s, if_neg x19, z_pk_s, if_neg x20, z_pk_s, if_neg x21, z_pk_s, if_neg x22, z_pk_s, if_neg x23, z_pk_s, if_neg x24, z_pk_s, if_neg x25, z_pk_s, if_neg x26, z_pk_s, if_neg x27, z_pk_s, if_neg x28, z_pk_s, if_neg x29, z_pk_s, if_neg x30, z_pk_s, if_neg x31, z_pk_s, if_neg x32, z_pk_n]

theorem lw_run {L : Nat} (hL : L < 2 ^ 29) : ∀ n i (M : sw_Mem), L < i + 6 * n → i < 2 ^ 29 → Wd M → M 113 0 = nI L → ∃ M', ∀ Q, sw_WP (d + 20) 225 18 [.ref 112, .ref 11, .ref 0, .int (nI i)] [] M Q = Q (some (.int (nI 1))) M' := by
  have out : ∀ i (M : sw_Mem), L < i + 6 → i < 2 ^ 29 → M 113 0 = nI L → ∃ M', ∀ Q, sw_WP (d + 20) 225 18 [.ref 112, .ref 11, .ref 0, .int (nI i)] [] M Q = Q (some (.int (nI 1))) M' := by
    intro i M h hi h3
    have r0 := rl_L h3 (by omega)
    have hc := z_lm6 (L := L) (i := i) (by omega) (by omega)
    refine ⟨M, fun Q => ?_⟩
    refine (s225_18 ..).trans ?_
    simp (disch := omega) only [s225_19, s225_20, s225_21, s225_23, s225_24, s225_1175, s225_1176, z_lt_t, z_lt_f, z_le_t, z_le_f, z_lt0, z_ge0, z_cl, z_in, z_add, z_eq_f, z_ne0, z_00, z_10, z_01, z_11, z_neg1, z_nI_NONE, z_div, z_rem, z_rem2, sw_pu_s, sw_pu_n, true_and, and_true, true_or, or_true, if_true, if_false, not_true_eq_false, not_false_eq_true, r0, hc, h]
  intro n
  induction n with
  | zero => intro i M h hi _ h3; exact out i M (by omega) hi h3
  | succ n ih =>
    intro i M h hi hW h3
    by_cases c : L < i + 6
    · exact out i M c hi h3
    · obtain ⟨T, I, π, ρ, τ, ft, sv, θ, hO, hC, hM⟩ := hW
      obtain ⟨M2, a1, a2, a3⟩ := lw_step (d := d) hO hC hM h3 (by omega) (show i + 6 ≤ L by omega)
      obtain ⟨M', b1'⟩ := ih (i + 6) M2 (by omega) (by omega) a1 a2
      exact ⟨M', fun Q => by rw [a3, b1']⟩
end LAW
