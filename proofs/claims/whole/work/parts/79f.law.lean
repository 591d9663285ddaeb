/-! the law: call by call -/
section LAW
variable {d : Nat} {T : Tw} {I : Nat → Tw} {π : Ps} {ρ : Rw} {τ : Tp} {ft sv : Int32} {θ : Tc} {M N : sw_Mem} {c m : Nat} {as : List Value} {Q : Option Value → sw_Mem → Prop}
def Wd (M : sw_Mem) : Prop := ∃ (T : Tw) (I : Nat → Tw) (π : Ps) (ρ : Rw) (τ : Tp) (ft sv : Int32) (θ : Tc), OK T I π ρ τ θ ∧ RC T I π ρ τ ft sv θ M ∧ RM T I π ρ τ ft sv θ M
theorem RM_n {N' : sw_Mem} (ho : π.2 ≤ 24) (h : RM T I π ρ τ ft sv θ M) (e : noM M N') : RM T I π ρ τ ft sv θ N' := RM_c ho h ⟨fun j _ => by rw [e 0 (by omega)], fun j _ => by rw [e 1 (by omega)], fun k _ _ => e k (by omega)⟩
theorem RC_n {N' : sw_Mem} (h : RC T I π ρ τ ft sv θ M) (e : noC M N') : RC T I π ρ τ ft sv θ N' := RC_c h (fun k hk => e k (by omega))
theorem opp_run (h : Opp c m as) (hO : OK T I π ρ τ θ) (hC : RC T I π ρ τ ft sv θ M) (hM : RM T I π ρ τ ft sv θ M) : ∃ M1 M2 r, Wd M2 ∧ M1 112 = M 112 ∧ M1 113 = M 113 ∧ M2 112 = M 112 ∧ M2 113 = M 113 ∧
    (∀ Q, sw_Cal (d + 20) c (.ref 11 :: as) M Q = Q (some (.int r)) M1) ∧ ∀ Q, sw_Cal (d + 20) m (.ref 0 :: as) M1 Q = Q (some (.int r)) M2 := by
  obtain ⟨T0, I0, π0, ρ0, τ0, ft0, sv0, θ0, r0, M1, N0, o0, ⟨c1, c2, c3⟩, -⟩ := h d T I π ρ τ ft sv θ M M hO hC hM
  obtain ⟨T', I', π', ρ', τ', ft', sv', θ', r, M1', M2, o1, ⟨g1, g2, g3⟩, g4, g5, g6⟩ := h d T I π ρ τ ft sv θ M M1 hO hC (RM_n hO.2.2.1.1 hM c2)
  have e := (c3 (fun a b => a = some (.int r) ∧ b = M1')).symm.trans (g3 (fun a b => a = some (.int r) ∧ b = M1'))
  have e2 := e.mpr ⟨rfl, rfl⟩
  obtain ⟨-, rfl⟩ := e2
  exact ⟨M1, M2, r, ⟨T', I', π', ρ', τ', ft', sv', θ', o1, RC_n g1 g5, g4⟩, c2 112 (by omega), c2 113 (by omega), (g5 112 (by omega)).trans (c2 112 (by omega)), (g5 113 (by omega)).trans (c2 113 (by omega)), g3, g6⟩
def Lstp (d L i : Nat) (M : sw_Mem) : Prop := ∃ M2, Wd M2 ∧ M2 113 0 = nI L ∧ ∀ Q, sw_WP (d + 20) 223 18 [.ref 112, .ref 11, .ref 0, .int (nI i)] [] M Q = sw_WP (d + 20) 223 18 [.ref 112, .ref 11, .ref 0, .int (nI (i + 6))] [] M2 Q
theorem kd112 : sw_kd 112 = 14 := by decide +kernel
theorem rl_L {L : Nat} (h3 : M 113 0 = nI L) (hL : L < 2 ^ 30) : sw_rl M 112 = L := by
  unfold sw_rl
  rw [if_pos rfl, h3, z_cl (by omega)]
theorem z_lm6 {L i : Nat} (hL : L < 2 ^ 30) (hi : i < 2 ^ 30) : (nI L - nI 6 < nI i) = (L < i + 6) := by
  rw [eq_iff_iff, Int32.lt_iff_toInt_lt, z_subI hL (by decide), nI_toInt (by omega)]
  omega
theorem lw_head {L i : Nat} (h3 : M 113 0 = nI L) (hL : L < 2 ^ 30) (hi : i + 6 ≤ L) : sw_WP d 223 18 [.ref 112, .ref 11, .ref 0, .int (nI i)] [] M Q = sw_WP d 223 (sw_pick [0, 1, 2, 3, 4, 5, 6, 7, 8, 9, 10, 11, 12, 13, 14, 15, 16, 17, 18, 19, 20, 21, 22, 23, 24, 25, 26, 27, 28, 29, 30, 31, 32] [180, 223, 266, 329, 352, 375, 388, 401, 424, 457, 480, 503, 516, 549, 582, 615, 648, 671, 694, 717, 750, 793, 826, 889, 932, 975, 998, 1021, 1044, 1077, 1110, 1133, 1156, 1169] (M 112 i &&& nI 63).toInt) [.ref 112, .ref 11, .ref 0, .int (nI i)] [] M Q := by
  have r0 := rl_L h3 hL
  have hc := z_lm6 (i := i) hL (by omega)
  refine (s223_18 ..).trans ?_
  simp (disch := omega) only [s223_19, s223_20, s223_21, s223_23, s223_24, s223_27, s223_28, s223_29, s223_30, s223_32, s223_33, z_lt_t, z_lt_f, z_le_t, z_le_f, z_lt0, z_ge0, z_cl, z_in, z_add, z_eq_f, z_ne0, z_00, z_10, z_01, z_11, z_neg1, z_nI_NONE, z_div, z_rem, z_rem2, sw_pu_s, sw_pu_n, true_and, and_true, true_or, or_true, if_true, if_false, not_true_eq_false, not_false_eq_true, r0, kd112, hc, show ¬ (L < i + 6) by omega]

theorem lw_0 (hO : OK T I π ρ τ θ) (hC : RC T I π ρ τ ft sv θ M) (hM : RM T I π ρ τ ft sv θ M) {L i : Nat} (h3 : M 113 0 = nI L) (hL : L < 2 ^ 30) (hi : i + 6 ≤ L) (hx : (M 112 i &&& nI 63).toInt = 0) : Lstp d L i M := by
  obtain ⟨M1, M2, r, a1, e1, e2, e3, e4, q1, q2⟩ := opp_run (d := d) (o_row (M 112 (i + 1)) (M 112 (i + 2)) (M 112 (i + 3))) hO hC hM
  have hp : sw_pick [0, 1, 2, 3, 4, 5, 6, 7, 8, 9, 10, 11, 12, 13, 14, 15, 16, 17, 18, 19, 20, 21, 22, 23, 24, 25, 26, 27, 28, 29, 30, 31, 32] [180, 223, 266, 329, 352, 375, 388, 401, 424, 457, 480, 503, 516, 549, 582, 615, 648, 671, 694, 717, 750, 793, 826, 889, 932, 975, 998, 1021, 1044, 1077, 1110, 1133, 1156, 1169] 0 = 180 := by decide
  have r0 := rl_L h3 hL
  have r1 := rl_L (M := M1) (by rw [e2]; exact h3) hL
  have kd := kd112
  refine ⟨M2, a1, by rw [e4]; exact h3, fun Q => ?_⟩
  rw [lw_head h3 hL hi, hx, hp]
  simp (disch := omega) only [s223_180, s223_181, s223_182, s223_183, s223_184, s223_185, s223_186, s223_187, s223_188, s223_189, s223_190, s223_191, s223_192, s223_193, s223_194, s223_195, s223_196, s223_199, s223_200, s223_201, s223_202, s223_203, s223_204, s223_205, s223_206, s223_207, s223_208, s223_209, s223_210, s223_211, s223_212, s223_213, s223_214, s223_215, s223_218, s223_221, s223_222, s223_1169, s223_1172, z_lt_t, z_lt_f, z_le_t, z_le_f, z_lt0, z_ge0, z_cl, z_in, z_add, z_eq_f, z_ne0, z_00, z_10, z_01, z_11, z_neg1, z_nI_NONE, z_div, z_rem, z_rem2, sw_pu_s, sw_pu_n, true_and, and_true, true_or, or_true, if_true, if_false, not_true_eq_false, not_false_eq_true, r0, r1, kd112, e1, q1, q2, eq_self]

theorem lw_1 (hO : OK T I π ρ τ θ) (hC : RC T I π ρ τ ft sv θ M) (hM : RM T I π ρ τ ft sv θ M) {L i : Nat} (h3 : M 113 0 = nI L) (hL : L < 2 ^ 30) (hi : i + 6 ≤ L) (hx : (M 112 i &&& nI 63).toInt = 1) : Lstp d L i M := by
  obtain ⟨M1, M2, r, a1, e1, e2, e3, e4, q1, q2⟩ := opp_run (d := d) (o_set (M 112 (i + 1)) (M 112 (i + 2)) (M 112 (i + 3))) hO hC hM
  have hp : sw_pick [0, 1, 2, 3, 4, 5, 6, 7, 8, 9, 10, 11, 12, 13, 14, 15, 16, 17, 18, 19, 20, 21, 22, 23, 24, 25, 26, 27, 28, 29, 30, 31, 32] [180, 223, 266, 329, 352, 375, 388, 401, 424, 457, 480, 503, 516, 549, 582, 615, 648, 671, 694, 717, 750, 793, 826, 889, 932, 975, 998, 1021, 1044, 1077, 1110, 1133, 1156, 1169] 1 = 223 := by decide
  have r0 := rl_L h3 hL
  have r1 := rl_L (M := M1) (by rw [e2]; exact h3) hL
  have kd := kd112
  refine ⟨M2, a1, by rw [e4]; exact h3, fun Q => ?_⟩
  rw [lw_head h3 hL hi, hx, hp]
  simp (disch := omega) only [s223_223, s223_224, s223_225, s223_226, s223_227, s223_228, s223_229, s223_230, s223_231, s223_232, s223_233, s223_234, s223_235, s223_236, s223_237, s223_238, s223_239, s223_242, s223_243, s223_244, s223_245, s223_246, s223_247, s223_248, s223_249, s223_250, s223_251, s223_252, s223_253, s223_254, s223_255, s223_256, s223_257, s223_258, s223_261, s223_264, s223_265, s223_1169, s223_1172, z_lt_t, z_lt_f, z_le_t, z_le_f, z_lt0, z_ge0, z_cl, z_in, z_add, z_eq_f, z_ne0, z_00, z_10, z_01, z_11, z_neg1, z_nI_NONE, z_div, z_rem, z_rem2, sw_pu_s, sw_pu_n, true_and, and_true, true_or, or_true, if_true, if_false, not_true_eq_false, not_false_eq_true, r0, r1, kd112, e1, q1, q2, eq_self]

theorem lw_2 (hO : OK T I π ρ τ θ) (hC : RC T I π ρ τ ft sv θ M) (hM : RM T I π ρ τ ft sv θ M) {L i : Nat} (h3 : M 113 0 = nI L) (hL : L < 2 ^ 30) (hi : i + 6 ≤ L) (hx : (M 112 i &&& nI 63).toInt = 2) : Lstp d L i M := by
  obtain ⟨M1, M2, r, a1, e1, e2, e3, e4, q1, q2⟩ := opp_run (d := d) (o_copy (M 112 (i + 1)) (M 112 (i + 2)) (M 112 (i + 3)) (M 112 (i + 4)) (M 112 (i + 5))) hO hC hM
  have hp : sw_pick [0, 1, 2, 3, 4, 5, 6, 7, 8, 9, 10, 11, 12, 13, 14, 15, 16, 17, 18, 19, 20, 21, 22, 23, 24, 25, 26, 27, 28, 29, 30, 31, 32] [180, 223, 266, 329, 352, 375, 388, 401, 424, 457, 480, 503, 516, 549, 582, 615, 648, 671, 694, 717, 750, 793, 826, 889, 932, 975, 998, 1021, 1044, 1077, 1110, 1133, 1156, 1169] 2 = 266 := by decide
  have r0 := rl_L h3 hL
  have r1 := rl_L (M := M1) (by rw [e2]; exact h3) hL
  have kd := kd112
  refine ⟨M2, a1, by rw [e4]; exact h3, fun Q => ?_⟩
  rw [lw_head h3 hL hi, hx, hp]
  simp (disch := omega) only [s223_266, s223_267, s223_268, s223_269, s223_270, s223_271, s223_272, s223_273, s223_274, s223_275, s223_276, s223_277, s223_278, s223_279, s223_280, s223_281, s223_282, s223_283, s223_284, s223_285, s223_286, s223_287, s223_288, s223_289, s223_290, s223_291, s223_292, s223_295, s223_296, s223_297, s223_298, s223_299, s223_300, s223_301, s223_302, s223_303, s223_304, s223_305, s223_306, s223_307, s223_308, s223_309, s223_310, s223_311, s223_312, s223_313, s223_314, s223_315, s223_316, s223_317, s223_318, s223_319, s223_320, s223_321, s223_324, s223_327, s223_328, s223_1169, s223_1172, z_lt_t, z_lt_f, z_le_t, z_le_f, z_lt0, z_ge0, z_cl, z_in, z_add, z_eq_f, z_ne0, z_00, z_10, z_01, z_11, z_neg1, z_nI_NONE, z_div, z_rem, z_rem2, sw_pu_s, sw_pu_n, true_and, and_true, true_or, or_true, if_true, if_false, not_true_eq_false, not_false_eq_true, r0, r1, kd112, e1, q1, q2, eq_self]

theorem lw_3 (hO : OK T I π ρ τ θ) (hC : RC T I π ρ τ ft sv θ M) (hM : RM T I π ρ τ ft sv θ M) {L i : Nat} (h3 : M 113 0 = nI L) (hL : L < 2 ^ 30) (hi : i + 6 ≤ L) (hx : (M 112 i &&& nI 63).toInt = 3) : Lstp d L i M := by
  obtain ⟨M1, M2, r, a1, e1, e2, e3, e4, q1, q2⟩ := opp_run (d := d) (o_drop (M 112 (i + 1))) hO hC hM
  have hp : sw_pick [0, 1, 2, 3, 4, 5, 6, 7, 8, 9, 10, 11, 12, 13, 14, 15, 16, 17, 18, 19, 20, 21, 22, 23, 24, 25, 26, 27, 28, 29, 30, 31, 32] [180, 223, 266, 329, 352, 375, 388, 401, 424, 457, 480, 503, 516, 549, 582, 615, 648, 671, 694, 717, 750, 793, 826, 889, 932, 975, 998, 1021, 1044, 1077, 1110, 1133, 1156, 1169] 3 = 329 := by decide
  have r0 := rl_L h3 hL
  have r1 := rl_L (M := M1) (by rw [e2]; exact h3) hL
  have kd := kd112
  refine ⟨M2, a1, by rw [e4]; exact h3, fun Q => ?_⟩
  rw [lw_head h3 hL hi, hx, hp]
  simp (disch := omega) only [s223_329, s223_330, s223_331, s223_332, s223_333, s223_334, s223_335, s223_338, s223_339, s223_340, s223_341, s223_342, s223_343, s223_344, s223_347, s223_350, s223_351, s223_1169, s223_1172, z_lt_t, z_lt_f, z_le_t, z_le_f, z_lt0, z_ge0, z_cl, z_in, z_add, z_eq_f, z_ne0, z_00, z_10, z_01, z_11, z_neg1, z_nI_NONE, z_div, z_rem, z_rem2, sw_pu_s, sw_pu_n, true_and, and_true, true_or, or_true, if_true, if_false, not_true_eq_false, not_false_eq_true, r0, r1, kd112, e1, q1, q2, eq_self]

theorem lw_4 (hO : OK T I π ρ τ θ) (hC : RC T I π ρ τ ft sv θ M) (hM : RM T I π ρ τ ft sv θ M) {L i : Nat} (h3 : M 113 0 = nI L) (hL : L < 2 ^ 30) (hi : i + 6 ≤ L) (hx : (M 112 i &&& nI 63).toInt = 4) : Lstp d L i M := by
  obtain ⟨M1, M2, r, a1, e1, e2, e3, e4, q1, q2⟩ := opp_run (d := d) (o_feed (M 112 (i + 1))) hO hC hM
  have hp : sw_pick [0, 1, 2, 3, 4, 5, 6, 7, 8, 9, 10, 11, 12, 13, 14, 15, 16, 17, 18, 19, 20, 21, 22, 23, 24, 25, 26, 27, 28, 29, 30, 31, 32] [180, 223, 266, 329, 352, 375, 388, 401, 424, 457, 480, 503, 516, 549, 582, 615, 648, 671, 694, 717, 750, 793, 826, 889, 932, 975, 998, 1021, 1044, 1077, 1110, 1133, 1156, 1169] 4 = 352 := by decide
  have r0 := rl_L h3 hL
  have r1 := rl_L (M := M1) (by rw [e2]; exact h3) hL
  have kd := kd112
  refine ⟨M2, a1, by rw [e4]; exact h3, fun Q => ?_⟩
  rw [lw_head h3 hL hi, hx, hp]
  simp (disch := omega) only [s223_352, s223_353, s223_354, s223_355, s223_356, s223_357, s223_358, s223_361, s223_362, s223_363, s223_364, s223_365, s223_366, s223_367, s223_370, s223_373, s223_374, s223_1169, s223_1172, z_lt_t, z_lt_f, z_le_t, z_le_f, z_lt0, z_ge0, z_cl, z_in, z_add, z_eq_f, z_ne0, z_00, z_10, z_01, z_11, z_neg1, z_nI_NONE, z_div, z_rem, z_rem2, sw_pu_s, sw_pu_n, true_and, and_true, true_or, or_true, if_true, if_false, not_true_eq_false, not_false_eq_true, r0, r1, kd112, e1, q1, q2, eq_self]

theorem lw_5 (hO : OK T I π ρ τ θ) (hC : RC T I π ρ τ ft sv θ M) (hM : RM T I π ρ τ ft sv θ M) {L i : Nat} (h3 : M 113 0 = nI L) (hL : L < 2 ^ 30) (hi : i + 6 ≤ L) (hx : (M 112 i &&& nI 63).toInt = 5) : Lstp d L i M := by
  obtain ⟨M1, M2, r, a1, e1, e2, e3, e4, q1, q2⟩ := opp_run (d := d) (o_valley) hO hC hM
  have hp : sw_pick [0, 1, 2, 3, 4, 5, 6, 7, 8, 9, 10, 11, 12, 13, 14, 15, 16, 17, 18, 19, 20, 21, 22, 23, 24, 25, 26, 27, 28, 29, 30, 31, 32] [180, 223, 266, 329, 352, 375, 388, 401, 424, 457, 480, 503, 516, 549, 582, 615, 648, 671, 694, 717, 750, 793, 826, 889, 932, 975, 998, 1021, 1044, 1077, 1110, 1133, 1156, 1169] 5 = 375 := by decide
  have r0 := rl_L h3 hL
  have r1 := rl_L (M := M1) (by rw [e2]; exact h3) hL
  have kd := kd112
  refine ⟨M2, a1, by rw [e4]; exact h3, fun Q => ?_⟩
  rw [lw_head h3 hL hi, hx, hp]
  simp (disch := omega) only [s223_375, s223_376, s223_379, s223_380, s223_383, s223_386, s223_387, s223_1169, s223_1172, z_lt_t, z_lt_f, z_le_t, z_le_f, z_lt0, z_ge0, z_cl, z_in, z_add, z_eq_f, z_ne0, z_00, z_10, z_01, z_11, z_neg1, z_nI_NONE, z_div, z_rem, z_rem2, sw_pu_s, sw_pu_n, true_and, and_true, true_or, or_true, if_true, if_false, not_true_eq_false, not_false_eq_true, r0, r1, kd112, e1, q1, q2, eq_self]

theorem lw_6 (hO : OK T I π ρ τ θ) (hC : RC T I π ρ τ ft sv θ M) (hM : RM T I π ρ τ ft sv θ M) {L i : Nat} (h3 : M 113 0 = nI L) (hL : L < 2 ^ 30) (hi : i + 6 ≤ L) (hx : (M 112 i &&& nI 63).toInt = 6) : Lstp d L i M := by
  obtain ⟨M1, M2, r, a1, e1, e2, e3, e4, q1, q2⟩ := opp_run (d := d) (o_fault) hO hC hM
  have hp : sw_pick [0, 1, 2, 3, 4, 5, 6, 7, 8, 9, 10, 11, 12, 13, 14, 15, 16, 17, 18, 19, 20, 21, 22, 23, 24, 25, 26, 27, 28, 29, 30, 31, 32] [180, 223, 266, 329, 352, 375, 388, 401, 424, 457, 480, 503, 516, 549, 582, 615, 648, 671, 694, 717, 750, 793, 826, 889, 932, 975, 998, 1021, 1044, 1077, 1110, 1133, 1156, 1169] 6 = 388 := by decide
  have r0 := rl_L h3 hL
  have r1 := rl_L (M := M1) (by rw [e2]; exact h3) hL
  have kd := kd112
  refine ⟨M2, a1, by rw [e4]; exact h3, fun Q => ?_⟩
  rw [lw_head h3 hL hi, hx, hp]
  simp (disch := omega) only [s223_388, s223_389, s223_392, s223_393, s223_396, s223_399, s223_400, s223_1169, s223_1172, z_lt_t, z_lt_f, z_le_t, z_le_f, z_lt0, z_ge0, z_cl, z_in, z_add, z_eq_f, z_ne0, z_00, z_10, z_01, z_11, z_neg1, z_nI_NONE, z_div, z_rem, z_rem2, sw_pu_s, sw_pu_n, true_and, and_true, true_or, or_true, if_true, if_false, not_true_eq_false, not_false_eq_true, r0, r1, kd112, e1, q1, q2, eq_self]

theorem lw_7 (hO : OK T I π ρ τ θ) (hC : RC T I π ρ τ ft sv θ M) (hM : RM T I π ρ τ ft sv θ M) {L i : Nat} (h3 : M 113 0 = nI L) (hL : L < 2 ^ 30) (hi : i + 6 ≤ L) (hx : (M 112 i &&& nI 63).toInt = 7) : Lstp d L i M := by
  obtain ⟨M1, M2, r, a1, e1, e2, e3, e4, q1, q2⟩ := opp_run (d := d) (o_days (M 112 (i + 1))) hO hC hM
  have hp : sw_pick [0, 1, 2, 3, 4, 5, 6, 7, 8, 9, 10, 11, 12, 13, 14, 15, 16, 17, 18, 19, 20, 21, 22, 23, 24, 25, 26, 27, 28, 29, 30, 31, 32] [180, 223, 266, 329, 352, 375, 388, 401, 424, 457, 480, 503, 516, 549, 582, 615, 648, 671, 694, 717, 750, 793, 826, 889, 932, 975, 998, 1021, 1044, 1077, 1110, 1133, 1156, 1169] 7 = 401 := by decide
  have r0 := rl_L h3 hL
  have r1 := rl_L (M := M1) (by rw [e2]; exact h3) hL
  have kd := kd112
  refine ⟨M2, a1, by rw [e4]; exact h3, fun Q => ?_⟩
  rw [lw_head h3 hL hi, hx, hp]
  simp (disch := omega) only [s223_401, s223_402, s223_403, s223_404, s223_405, s223_406, s223_407, s223_410, s223_411, s223_412, s223_413, s223_414, s223_415, s223_416, s223_419, s223_422, s223_423, s223_1169, s223_1172, z_lt_t, z_lt_f, z_le_t, z_le_f, z_lt0, z_ge0, z_cl, z_in, z_add, z_eq_f, z_ne0, z_00, z_10, z_01, z_11, z_neg1, z_nI_NONE, z_div, z_rem, z_rem2, sw_pu_s, sw_pu_n, true_and, and_true, true_or, or_true, if_true, if_false, not_true_eq_false, not_false_eq_true, r0, r1, kd112, e1, q1, q2, eq_self]

theorem lw_8 (hO : OK T I π ρ τ θ) (hC : RC T I π ρ τ ft sv θ M) (hM : RM T I π ρ τ ft sv θ M) {L i : Nat} (h3 : M 113 0 = nI L) (hL : L < 2 ^ 30) (hi : i + 6 ≤ L) (hx : (M 112 i &&& nI 63).toInt = 8) : Lstp d L i M := by
  obtain ⟨M1, M2, r, a1, e1, e2, e3, e4, q1, q2⟩ := opp_run (d := d) (o_wed (M 112 (i + 1)) (M 112 (i + 2))) hO hC hM
  have hp : sw_pick [0, 1, 2, 3, 4, 5, 6, 7, 8, 9, 10, 11, 12, 13, 14, 15, 16, 17, 18, 19, 20, 21, 22, 23, 24, 25, 26, 27, 28, 29, 30, 31, 32] [180, 223, 266, 329, 352, 375, 388, 401, 424, 457, 480, 503, 516, 549, 582, 615, 648, 671, 694, 717, 750, 793, 826, 889, 932, 975, 998, 1021, 1044, 1077, 1110, 1133, 1156, 1169] 8 = 424 := by decide
  have r0 := rl_L h3 hL
  have r1 := rl_L (M := M1) (by rw [e2]; exact h3) hL
  have kd := kd112
  refine ⟨M2, a1, by rw [e4]; exact h3, fun Q => ?_⟩
  rw [lw_head h3 hL hi, hx, hp]
  simp (disch := omega) only [s223_424, s223_425, s223_426, s223_427, s223_428, s223_429, s223_430, s223_431, s223_432, s223_433, s223_434, s223_435, s223_438, s223_439, s223_440, s223_441, s223_442, s223_443, s223_444, s223_445, s223_446, s223_447, s223_448, s223_449, s223_452, s223_455, s223_456, s223_1169, s223_1172, z_lt_t, z_lt_f, z_le_t, z_le_f, z_lt0, z_ge0, z_cl, z_in, z_add, z_eq_f, z_ne0, z_00, z_10, z_01, z_11, z_neg1, z_nI_NONE, z_div, z_rem, z_rem2, sw_pu_s, sw_pu_n, true_and, and_true, true_or, or_true, if_true, if_false, not_true_eq_false, not_false_eq_true, r0, r1, kd112, e1, q1, q2, eq_self]

theorem lw_9 (hO : OK T I π ρ τ θ) (hC : RC T I π ρ τ ft sv θ M) (hM : RM T I π ρ τ ft sv θ M) {L i : Nat} (h3 : M 113 0 = nI L) (hL : L < 2 ^ 30) (hi : i + 6 ≤ L) (hx : (M 112 i &&& nI 63).toInt = 9) : Lstp d L i M := by
  obtain ⟨M1, M2, r, a1, e1, e2, e3, e4, q1, q2⟩ := opp_run (d := d) (o_part (M 112 (i + 1))) hO hC hM
  have hp : sw_pick [0, 1, 2, 3, 4, 5, 6, 7, 8, 9, 10, 11, 12, 13, 14, 15, 16, 17, 18, 19, 20, 21, 22, 23, 24, 25, 26, 27, 28, 29, 30, 31, 32] [180, 223, 266, 329, 352, 375, 388, 401, 424, 457, 480, 503, 516, 549, 582, 615, 648, 671, 694, 717, 750, 793, 826, 889, 932, 975, 998, 1021, 1044, 1077, 1110, 1133, 1156, 1169] 9 = 457 := by decide
  have r0 := rl_L h3 hL
  have r1 := rl_L (M := M1) (by rw [e2]; exact h3) hL
  have kd := kd112
  refine ⟨M2, a1, by rw [e4]; exact h3, fun Q => ?_⟩
  rw [lw_head h3 hL hi, hx, hp]
  simp (disch := omega) only [s223_457, s223_458, s223_459, s223_460, s223_461, s223_462, s223_463, s223_466, s223_467, s223_468, s223_469, s223_470, s223_471, s223_472, s223_475, s223_478, s223_479, s223_1169, s223_1172, z_lt_t, z_lt_f, z_le_t, z_le_f, z_lt0, z_ge0, z_cl, z_in, z_add, z_eq_f, z_ne0, z_00, z_10, z_01, z_11, z_neg1, z_nI_NONE, z_div, z_rem, z_rem2, sw_pu_s, sw_pu_n, true_and, and_true, true_or, or_true, if_true, if_false, not_true_eq_false, not_false_eq_true, r0, r1, kd112, e1, q1, q2, eq_self]

theorem lw_10 (hO : OK T I π ρ τ θ) (hC : RC T I π ρ τ ft sv θ M) (hM : RM T I π ρ τ ft sv θ M) {L i : Nat} (h3 : M 113 0 = nI L) (hL : L < 2 ^ 30) (hi : i + 6 ≤ L) (hx : (M 112 i &&& nI 63).toInt = 10) : Lstp d L i M := by
  obtain ⟨M1, M2, r, a1, e1, e2, e3, e4, q1, q2⟩ := opp_run (d := d) (o_dress (M 112 (i + 1))) hO hC hM
  have hp : sw_pick [0, 1, 2, 3, 4, 5, 6, 7, 8, 9, 10, 11, 12, 13, 14, 15, 16, 17, 18, 19, 20, 21, 22, 23, 24, 25, 26, 27, 28, 29, 30, 31, 32] [180, 223, 266, 329, 352, 375, 388, 401, 424, 457, 480, 503, 516, 549, 582, 615, 648, 671, 694, 717, 750, 793, 826, 889, 932, 975, 998, 1021, 1044, 1077, 1110, 1133, 1156, 1169] 10 = 480 := by decide
  have r0 := rl_L h3 hL
  have r1 := rl_L (M := M1) (by rw [e2]; exact h3) hL
  have kd := kd112
  refine ⟨M2, a1, by rw [e4]; exact h3, fun Q => ?_⟩
  rw [lw_head h3 hL hi, hx, hp]
  simp (disch := omega) only [s223_480, s223_481, s223_482, s223_483, s223_484, s223_485, s223_486, s223_489, s223_490, s223_491, s223_492, s223_493, s223_494, s223_495, s223_498, s223_501, s223_502, s223_1169, s223_1172, z_lt_t, z_lt_f, z_le_t, z_le_f, z_lt0, z_ge0, z_cl, z_in, z_add, z_eq_f, z_ne0, z_00, z_10, z_01, z_11, z_neg1, z_nI_NONE, z_div, z_rem, z_rem2, sw_pu_s, sw_pu_n, true_and, and_true, true_or, or_true, if_true, if_false, not_true_eq_false, not_false_eq_true, r0, r1, kd112, e1, q1, q2, eq_self]

theorem lw_11 (hO : OK T I π ρ τ θ) (hC : RC T I π ρ τ ft sv θ M) (hM : RM T I π ρ τ ft sv θ M) {L i : Nat} (h3 : M 113 0 = nI L) (hL : L < 2 ^ 30) (hi : i + 6 ≤ L) (hx : (M 112 i &&& nI 63).toInt = 11) : Lstp d L i M := by
  obtain ⟨M1, M2, r, a1, e1, e2, e3, e4, q1, q2⟩ := opp_run (d := d) (o_undo) hO hC hM
  have hp : sw_pick [0, 1, 2, 3, 4, 5, 6, 7, 8, 9, 10, 11, 12, 13, 14, 15, 16, 17, 18, 19, 20, 21, 22, 23, 24, 25, 26, 27, 28, 29, 30, 31, 32] [180, 223, 266, 329, 352, 375, 388, 401, 424, 457, 480, 503, 516, 549, 582, 615, 648, 671, 694, 717, 750, 793, 826, 889, 932, 975, 998, 1021, 1044, 1077, 1110, 1133, 1156, 1169] 11 = 503 := by decide
  have r0 := rl_L h3 hL
  have r1 := rl_L (M := M1) (by rw [e2]; exact h3) hL
  have kd := kd112
  refine ⟨M2, a1, by rw [e4]; exact h3, fun Q => ?_⟩
  rw [lw_head h3 hL hi, hx, hp]
  simp (disch := omega) only [s223_503, s223_504, s223_507, s223_508, s223_511, s223_514, s223_515, s223_1169, s223_1172, z_lt_t, z_lt_f, z_le_t, z_le_f, z_lt0, z_ge0, z_cl, z_in, z_add, z_eq_f, z_ne0, z_00, z_10, z_01, z_11, z_neg1, z_nI_NONE, z_div, z_rem, z_rem2, sw_pu_s, sw_pu_n, true_and, and_true, true_or, or_true, if_true, if_false, not_true_eq_false, not_false_eq_true, r0, r1, kd112, e1, q1, q2, eq_self]

theorem lw_12 (hO : OK T I π ρ τ θ) (hC : RC T I π ρ τ ft sv θ M) (hM : RM T I π ρ τ ft sv θ M) {L i : Nat} (h3 : M 113 0 = nI L) (hL : L < 2 ^ 30) (hi : i + 6 ≤ L) (hx : (M 112 i &&& nI 63).toInt = 12) : Lstp d L i M := by
  obtain ⟨M1, M2, r, a1, e1, e2, e3, e4, q1, q2⟩ := opp_run (d := d) (o_runner (M 112 (i + 1)) (M 112 (i + 2))) hO hC hM
  have hp : sw_pick [0, 1, 2, 3, 4, 5, 6, 7, 8, 9, 10, 11, 12, 13, 14, 15, 16, 17, 18, 19, 20, 21, 22, 23, 24, 25, 26, 27, 28, 29, 30, 31, 32] [180, 223, 266, 329, 352, 375, 388, 401, 424, 457, 480, 503, 516, 549, 582, 615, 648, 671, 694, 717, 750, 793, 826, 889, 932, 975, 998, 1021, 1044, 1077, 1110, 1133, 1156, 1169] 12 = 516 := by decide
  have r0 := rl_L h3 hL
  have r1 := rl_L (M := M1) (by rw [e2]; exact h3) hL
  have kd := kd112
  refine ⟨M2, a1, by rw [e4]; exact h3, fun Q => ?_⟩
  rw [lw_head h3 hL hi, hx, hp]
  simp (disch := omega) only [s223_516, s223_517, s223_518, s223_519, s223_520, s223_521, s223_522, s223_523, s223_524, s223_525, s223_526, s223_527, s223_530, s223_531, s223_532, s223_533, s223_534, s223_535, s223_536, s223_537, s223_538, s223_539, s223_540, s223_541, s223_544, s223_547, s223_548, s223_1169, s223_1172, z_lt_t, z_lt_f, z_le_t, z_le_f, z_lt0, z_ge0, z_cl, z_in, z_add, z_eq_f, z_ne0, z_00, z_10, z_01, z_11, z_neg1, z_nI_NONE, z_div, z_rem, z_rem2, sw_pu_s, sw_pu_n, true_and, and_true, true_or, or_true, if_true, if_false, not_true_eq_false, not_false_eq_true, r0, r1, kd112, e1, q1, q2, eq_self]

theorem lw_13 (hO : OK T I π ρ τ θ) (hC : RC T I π ρ τ ft sv θ M) (hM : RM T I π ρ τ ft sv θ M) {L i : Nat} (h3 : M 113 0 = nI L) (hL : L < 2 ^ 30) (hi : i + 6 ≤ L) (hx : (M 112 i &&& nI 63).toInt = 13) : Lstp d L i M := by
  obtain ⟨M1, M2, r, a1, e1, e2, e3, e4, q1, q2⟩ := opp_run (d := d) (o_bed (M 112 (i + 1)) (M 112 (i + 2))) hO hC hM
  have hp : sw_pick [0, 1, 2, 3, 4, 5, 6, 7, 8, 9, 10, 11, 12, 13, 14, 15, 16, 17, 18, 19, 20, 21, 22, 23, 24, 25, 26, 27, 28, 29, 30, 31, 32] [180, 223, 266, 329, 352, 375, 388, 401, 424, 457, 480, 503, 516, 549, 582, 615, 648, 671, 694, 717, 750, 793, 826, 889, 932, 975, 998, 1021, 1044, 1077, 1110, 1133, 1156, 1169] 13 = 549 := by decide
  have r0 := rl_L h3 hL
  have r1 := rl_L (M := M1) (by rw [e2]; exact h3) hL
  have kd := kd112
  refine ⟨M2, a1, by rw [e4]; exact h3, fun Q => ?_⟩
  rw [lw_head h3 hL hi, hx, hp]
  simp (disch := omega) only [s223_549, s223_550, s223_551, s223_552, s223_553, s223_554, s223_555, s223_556, s223_557, s223_558, s223_559, s223_560, s223_563, s223_564, s223_565, s223_566, s223_567, s223_568, s223_569, s223_570, s223_571, s223_572, s223_573, s223_574, s223_577, s223_580, s223_581, s223_1169, s223_1172, z_lt_t, z_lt_f, z_le_t, z_le_f, z_lt0, z_ge0, z_cl, z_in, z_add, z_eq_f, z_ne0, z_00, z_10, z_01, z_11, z_neg1, z_nI_NONE, z_div, z_rem, z_rem2, sw_pu_s, sw_pu_n, true_and, and_true, true_or, or_true, if_true, if_false, not_true_eq_false, not_false_eq_true, r0, r1, kd112, e1, q1, q2, eq_self]

theorem lw_14 (hO : OK T I π ρ τ θ) (hC : RC T I π ρ τ ft sv θ M) (hM : RM T I π ρ τ ft sv θ M) {L i : Nat} (h3 : M 113 0 = nI L) (hL : L < 2 ^ 30) (hi : i + 6 ≤ L) (hx : (M 112 i &&& nI 63).toInt = 14) : Lstp d L i M := by
  obtain ⟨M1, M2, r, a1, e1, e2, e3, e4, q1, q2⟩ := opp_run (d := d) (o_grinds (M 112 (i + 1)) (M 112 (i + 2))) hO hC hM
  have hp : sw_pick [0, 1, 2, 3, 4, 5, 6, 7, 8, 9, 10, 11, 12, 13, 14, 15, 16, 17, 18, 19, 20, 21, 22, 23, 24, 25, 26, 27, 28, 29, 30, 31, 32] [180, 223, 266, 329, 352, 375, 388, 401, 424, 457, 480, 503, 516, 549, 582, 615, 648, 671, 694, 717, 750, 793, 826, 889, 932, 975, 998, 1021, 1044, 1077, 1110, 1133, 1156, 1169] 14 = 582 := by decide
  have r0 := rl_L h3 hL
  have r1 := rl_L (M := M1) (by rw [e2]; exact h3) hL
  have kd := kd112
  refine ⟨M2, a1, by rw [e4]; exact h3, fun Q => ?_⟩
  rw [lw_head h3 hL hi, hx, hp]
  simp (disch := omega) only [s223_582, s223_583, s223_584, s223_585, s223_586, s223_587, s223_588, s223_589, s223_590, s223_591, s223_592, s223_593, s223_596, s223_597, s223_598, s223_599, s223_600, s223_601, s223_602, s223_603, s223_604, s223_605, s223_606, s223_607, s223_610, s223_613, s223_614, s223_1169, s223_1172, z_lt_t, z_lt_f, z_le_t, z_le_f, z_lt0, z_ge0, z_cl, z_in, z_add, z_eq_f, z_ne0, z_00, z_10, z_01, z_11, z_neg1, z_nI_NONE, z_div, z_rem, z_rem2, sw_pu_s, sw_pu_n, true_and, and_true, true_or, or_true, if_true, if_false, not_true_eq_false, not_false_eq_true, r0, r1, kd112, e1, q1, q2, eq_self]

theorem lw_15 (hO : OK T I π ρ τ θ) (hC : RC T I π ρ τ ft sv θ M) (hM : RM T I π ρ τ ft sv θ M) {L i : Nat} (h3 : M 113 0 = nI L) (hL : L < 2 ^ 30) (hi : i + 6 ≤ L) (hx : (M 112 i &&& nI 63).toInt = 15) : Lstp d L i M := by
  obtain ⟨M1, M2, r, a1, e1, e2, e3, e4, q1, q2⟩ := opp_run (d := d) (o_flour (M 112 (i + 1)) (M 112 (i + 2))) hO hC hM
  have hp : sw_pick [0, 1, 2, 3, 4, 5, 6, 7, 8, 9, 10, 11, 12, 13, 14, 15, 16, 17, 18, 19, 20, 21, 22, 23, 24, 25, 26, 27, 28, 29, 30, 31, 32] [180, 223, 266, 329, 352, 375, 388, 401, 424, 457, 480, 503, 516, 549, 582, 615, 648, 671, 694, 717, 750, 793, 826, 889, 932, 975, 998, 1021, 1044, 1077, 1110, 1133, 1156, 1169] 15 = 615 := by decide
  have r0 := rl_L h3 hL
  have r1 := rl_L (M := M1) (by rw [e2]; exact h3) hL
  have kd := kd112
  refine ⟨M2, a1, by rw [e4]; exact h3, fun Q => ?_⟩
  rw [lw_head h3 hL hi, hx, hp]
  simp (disch := omega) only [s223_615, s223_616, s223_617, s223_618, s223_619, s223_620, s223_621, s223_622, s223_623, s223_624, s223_625, s223_626, s223_629, s223_630, s223_631, s223_632, s223_633, s223_634, s223_635, s223_636, s223_637, s223_638, s223_639, s223_640, s223_643, s223_646, s223_647, s223_1169, s223_1172, z_lt_t, z_lt_f, z_le_t, z_le_f, z_lt0, z_ge0, z_cl, z_in, z_add, z_eq_f, z_ne0, z_00, z_10, z_01, z_11, z_neg1, z_nI_NONE, z_div, z_rem, z_rem2, sw_pu_s, sw_pu_n, true_and, and_true, true_or, or_true, if_true, if_false, not_true_eq_false, not_false_eq_true, r0, r1, kd112, e1, q1, q2, eq_self]

theorem lw_16 (hO : OK T I π ρ τ θ) (hC : RC T I π ρ τ ft sv θ M) (hM : RM T I π ρ τ ft sv θ M) {L i : Nat} (h3 : M 113 0 = nI L) (hL : L < 2 ^ 30) (hi : i + 6 ≤ L) (hx : (M 112 i &&& nI 63).toInt = 16) : Lstp d L i M := by
  obtain ⟨M1, M2, r, a1, e1, e2, e3, e4, q1, q2⟩ := opp_run (d := d) (o_flourOfAll (M 112 (i + 1))) hO hC hM
  have hp : sw_pick [0, 1, 2, 3, 4, 5, 6, 7, 8, 9, 10, 11, 12, 13, 14, 15, 16, 17, 18, 19, 20, 21, 22, 23, 24, 25, 26, 27, 28, 29, 30, 31, 32] [180, 223, 266, 329, 352, 375, 388, 401, 424, 457, 480, 503, 516, 549, 582, 615, 648, 671, 694, 717, 750, 793, 826, 889, 932, 975, 998, 1021, 1044, 1077, 1110, 1133, 1156, 1169] 16 = 648 := by decide
  have r0 := rl_L h3 hL
  have r1 := rl_L (M := M1) (by rw [e2]; exact h3) hL
  have kd := kd112
  refine ⟨M2, a1, by rw [e4]; exact h3, fun Q => ?_⟩
  rw [lw_head h3 hL hi, hx, hp]
  simp (disch := omega) only [s223_648, s223_649, s223_650, s223_651, s223_652, s223_653, s223_654, s223_657, s223_658, s223_659, s223_660, s223_661, s223_662, s223_663, s223_666, s223_669, s223_670, s223_1169, s223_1172, z_lt_t, z_lt_f, z_le_t, z_le_f, z_lt0, z_ge0, z_cl, z_in, z_add, z_eq_f, z_ne0, z_00, z_10, z_01, z_11, z_neg1, z_nI_NONE, z_div, z_rem, z_rem2, sw_pu_s, sw_pu_n, true_and, and_true, true_or, or_true, if_true, if_false, not_true_eq_false, not_false_eq_true, r0, r1, kd112, e1, q1, q2, eq_self]

theorem lw_17 (hO : OK T I π ρ τ θ) (hC : RC T I π ρ τ ft sv θ M) (hM : RM T I π ρ τ ft sv θ M) {L i : Nat} (h3 : M 113 0 = nI L) (hL : L < 2 ^ 30) (hi : i + 6 ≤ L) (hx : (M 112 i &&& nI 63).toInt = 17) : Lstp d L i M := by
  obtain ⟨M1, M2, r, a1, e1, e2, e3, e4, q1, q2⟩ := opp_run (d := d) (o_blocks (M 112 (i + 1))) hO hC hM
  have hp : sw_pick [0, 1, 2, 3, 4, 5, 6, 7, 8, 9, 10, 11, 12, 13, 14, 15, 16, 17, 18, 19, 20, 21, 22, 23, 24, 25, 26, 27, 28, 29, 30, 31, 32] [180, 223, 266, 329, 352, 375, 388, 401, 424, 457, 480, 503, 516, 549, 582, 615, 648, 671, 694, 717, 750, 793, 826, 889, 932, 975, 998, 1021, 1044, 1077, 1110, 1133, 1156, 1169] 17 = 671 := by decide
  have r0 := rl_L h3 hL
  have r1 := rl_L (M := M1) (by rw [e2]; exact h3) hL
  have kd := kd112
  refine ⟨M2, a1, by rw [e4]; exact h3, fun Q => ?_⟩
  rw [lw_head h3 hL hi, hx, hp]
  simp (disch := omega) only [s223_671, s223_672, s223_673, s223_674, s223_675, s223_676, s223_677, s223_680, s223_681, s223_682, s223_683, s223_684, s223_685, s223_686, s223_689, s223_692, s223_693, s223_1169, s223_1172, z_lt_t, z_lt_f, z_le_t, z_le_f, z_lt0, z_ge0, z_cl, z_in, z_add, z_eq_f, z_ne0, z_00, z_10, z_01, z_11, z_neg1, z_nI_NONE, z_div, z_rem, z_rem2, sw_pu_s, sw_pu_n, true_and, and_true, true_or, or_true, if_true, if_false, not_true_eq_false, not_false_eq_true, r0, r1, kd112, e1, q1, q2, eq_self]

theorem lw_18 (hO : OK T I π ρ τ θ) (hC : RC T I π ρ τ ft sv θ M) (hM : RM T I π ρ τ ft sv θ M) {L i : Nat} (h3 : M 113 0 = nI L) (hL : L < 2 ^ 30) (hi : i + 6 ≤ L) (hx : (M 112 i &&& nI 63).toInt = 18) : Lstp d L i M := by
  obtain ⟨M1, M2, r, a1, e1, e2, e3, e4, q1, q2⟩ := opp_run (d := d) (o_stable (M 112 (i + 1))) hO hC hM
  have hp : sw_pick [0, 1, 2, 3, 4, 5, 6, 7, 8, 9, 10, 11, 12, 13, 14, 15, 16, 17, 18, 19, 20, 21, 22, 23, 24, 25, 26, 27, 28, 29, 30, 31, 32] [180, 223, 266, 329, 352, 375, 388, 401, 424, 457, 480, 503, 516, 549, 582, 615, 648, 671, 694, 717, 750, 793, 826, 889, 932, 975, 998, 1021, 1044, 1077, 1110, 1133, 1156, 1169] 18 = 694 := by decide
  have r0 := rl_L h3 hL
  have r1 := rl_L (M := M1) (by rw [e2]; exact h3) hL
  have kd := kd112
  refine ⟨M2, a1, by rw [e4]; exact h3, fun Q => ?_⟩
  rw [lw_head h3 hL hi, hx, hp]
  simp (disch := omega) only [s223_694, s223_695, s223_696, s223_697, s223_698, s223_699, s223_700, s223_703, s223_704, s223_705, s223_706, s223_707, s223_708, s223_709, s223_712, s223_715, s223_716, s223_1169, s223_1172, z_lt_t, z_lt_f, z_le_t, z_le_f, z_lt0, z_ge0, z_cl, z_in, z_add, z_eq_f, z_ne0, z_00, z_10, z_01, z_11, z_neg1, z_nI_NONE, z_div, z_rem, z_rem2, sw_pu_s, sw_pu_n, true_and, and_true, true_or, or_true, if_true, if_false, not_true_eq_false, not_false_eq_true, r0, r1, kd112, e1, q1, q2, eq_self]

theorem lw_19 (hO : OK T I π ρ τ θ) (hC : RC T I π ρ τ ft sv θ M) (hM : RM T I π ρ τ ft sv θ M) {L i : Nat} (h3 : M 113 0 = nI L) (hL : L < 2 ^ 30) (hi : i + 6 ≤ L) (hx : (M 112 i &&& nI 63).toInt = 19) : Lstp d L i M := by
  obtain ⟨M1, M2, r, a1, e1, e2, e3, e4, q1, q2⟩ := opp_run (d := d) (o_most (M 112 (i + 1)) (M 112 (i + 2))) hO hC hM
  have hp : sw_pick [0, 1, 2, 3, 4, 5, 6, 7, 8, 9, 10, 11, 12, 13, 14, 15, 16, 17, 18, 19, 20, 21, 22, 23, 24, 25, 26, 27, 28, 29, 30, 31, 32] [180, 223, 266, 329, 352, 375, 388, 401, 424, 457, 480, 503, 516, 549, 582, 615, 648, 671, 694, 717, 750, 793, 826, 889, 932, 975, 998, 1021, 1044, 1077, 1110, 1133, 1156, 1169] 19 = 717 := by decide
  have r0 := rl_L h3 hL
  have r1 := rl_L (M := M1) (by rw [e2]; exact h3) hL
  have kd := kd112
  refine ⟨M2, a1, by rw [e4]; exact h3, fun Q => ?_⟩
  rw [lw_head h3 hL hi, hx, hp]
  simp (disch := omega) only [s223_717, s223_718, s223_719, s223_720, s223_721, s223_722, s223_723, s223_724, s223_725, s223_726, s223_727, s223_728, s223_731, s223_732, s223_733, s223_734, s223_735, s223_736, s223_737, s223_738, s223_739, s223_740, s223_741, s223_742, s223_745, s223_748, s223_749, s223_1169, s223_1172, z_lt_t, z_lt_f, z_le_t, z_le_f, z_lt0, z_ge0, z_cl, z_in, z_add, z_eq_f, z_ne0, z_00, z_10, z_01, z_11, z_neg1, z_nI_NONE, z_div, z_rem, z_rem2, sw_pu_s, sw_pu_n, true_and, and_true, true_or, or_true, if_true, if_false, not_true_eq_false, not_false_eq_true, r0, r1, kd112, e1, q1, q2, eq_self]

theorem lw_20 (hO : OK T I π ρ τ θ) (hC : RC T I π ρ τ ft sv θ M) (hM : RM T I π ρ τ ft sv θ M) {L i : Nat} (h3 : M 113 0 = nI L) (hL : L < 2 ^ 30) (hi : i + 6 ≤ L) (hx : (M 112 i &&& nI 63).toInt = 20) : Lstp d L i M := by
  obtain ⟨M1, M2, r, a1, e1, e2, e3, e4, q1, q2⟩ := opp_run (d := d) (o_moved (M 112 (i + 1)) (M 112 (i + 2)) (M 112 (i + 3))) hO hC hM
  have hp : sw_pick [0, 1, 2, 3, 4, 5, 6, 7, 8, 9, 10, 11, 12, 13, 14, 15, 16, 17, 18, 19, 20, 21, 22, 23, 24, 25, 26, 27, 28, 29, 30, 31, 32] [180, 223, 266, 329, 352, 375, 388, 401, 424, 457, 480, 503, 516, 549, 582, 615, 648, 671, 694, 717, 750, 793, 826, 889, 932, 975, 998, 1021, 1044, 1077, 1110, 1133, 1156, 1169] 20 = 750 := by decide
  have r0 := rl_L h3 hL
  have r1 := rl_L (M := M1) (by rw [e2]; exact h3) hL
  have kd := kd112
  refine ⟨M2, a1, by rw [e4]; exact h3, fun Q => ?_⟩
  rw [lw_head h3 hL hi, hx, hp]
  simp (disch := omega) only [s223_750, s223_751, s223_752, s223_753, s223_754, s223_755, s223_756, s223_757, s223_758, s223_759, s223_760, s223_761, s223_762, s223_763, s223_764, s223_765, s223_766, s223_769, s223_770, s223_771, s223_772, s223_773, s223_774, s223_775, s223_776, s223_777, s223_778, s223_779, s223_780, s223_781, s223_782, s223_783, s223_784, s223_785, s223_788, s223_791, s223_792, s223_1169, s223_1172, z_lt_t, z_lt_f, z_le_t, z_le_f, z_lt0, z_ge0, z_cl, z_in, z_add, z_eq_f, z_ne0, z_00, z_10, z_01, z_11, z_neg1, z_nI_NONE, z_div, z_rem, z_rem2, sw_pu_s, sw_pu_n, true_and, and_true, true_or, or_true, if_true, if_false, not_true_eq_false, not_false_eq_true, r0, r1, kd112, e1, q1, q2, eq_self]

theorem lw_21 (hO : OK T I π ρ τ θ) (hC : RC T I π ρ τ ft sv θ M) (hM : RM T I π ρ τ ft sv θ M) {L i : Nat} (h3 : M 113 0 = nI L) (hL : L < 2 ^ 30) (hi : i + 6 ≤ L) (hx : (M 112 i &&& nI 63).toInt = 21) : Lstp d L i M := by
  obtain ⟨M1, M2, r, a1, e1, e2, e3, e4, q1, q2⟩ := opp_run (d := d) (o_dressing (M 112 (i + 1)) (M 112 (i + 2))) hO hC hM
  have hp : sw_pick [0, 1, 2, 3, 4, 5, 6, 7, 8, 9, 10, 11, 12, 13, 14, 15, 16, 17, 18, 19, 20, 21, 22, 23, 24, 25, 26, 27, 28, 29, 30, 31, 32] [180, 223, 266, 329, 352, 375, 388, 401, 424, 457, 480, 503, 516, 549, 582, 615, 648, 671, 694, 717, 750, 793, 826, 889, 932, 975, 998, 1021, 1044, 1077, 1110, 1133, 1156, 1169] 21 = 793 := by decide
  have r0 := rl_L h3 hL
  have r1 := rl_L (M := M1) (by rw [e2]; exact h3) hL
  have kd := kd112
  refine ⟨M2, a1, by rw [e4]; exact h3, fun Q => ?_⟩
  rw [lw_head h3 hL hi, hx, hp]
  simp (disch := omega) only [s223_793, s223_794, s223_795, s223_796, s223_797, s223_798, s223_799, s223_800, s223_801, s223_802, s223_803, s223_804, s223_807, s223_808, s223_809, s223_810, s223_811, s223_812, s223_813, s223_814, s223_815, s223_816, s223_817, s223_818, s223_821, s223_824, s223_825, s223_1169, s223_1172, z_lt_t, z_lt_f, z_le_t, z_le_f, z_lt0, z_ge0, z_cl, z_in, z_add, z_eq_f, z_ne0, z_00, z_10, z_01, z_11, z_neg1, z_nI_NONE, z_div, z_rem, z_rem2, sw_pu_s, sw_pu_n, true_and, and_true, true_or, or_true, if_true, if_false, not_true_eq_false, not_false_eq_true, r0, r1, kd112, e1, q1, q2, eq_self]

theorem lw_22 (hO : OK T I π ρ τ θ) (hC : RC T I π ρ τ ft sv θ M) (hM : RM T I π ρ τ ft sv θ M) {L i : Nat} (h3 : M 113 0 = nI L) (hL : L < 2 ^ 30) (hi : i + 6 ≤ L) (hx : (M 112 i &&& nI 63).toInt = 22) : Lstp d L i M := by
  obtain ⟨M1, M2, r, a1, e1, e2, e3, e4, q1, q2⟩ := opp_run (d := d) (o_fits (M 112 (i + 1)) (M 112 (i + 2)) (M 112 (i + 3)) (M 112 (i + 4)) (M 112 (i + 5))) hO hC hM
  have hp : sw_pick [0, 1, 2, 3, 4, 5, 6, 7, 8, 9, 10, 11, 12, 13, 14, 15, 16, 17, 18, 19, 20, 21, 22, 23, 24, 25, 26, 27, 28, 29, 30, 31, 32] [180, 223, 266, 329, 352, 375, 388, 401, 424, 457, 480, 503, 516, 549, 582, 615, 648, 671, 694, 717, 750, 793, 826, 889, 932, 975, 998, 1021, 1044, 1077, 1110, 1133, 1156, 1169] 22 = 826 := by decide
  have r0 := rl_L h3 hL
  have r1 := rl_L (M := M1) (by rw [e2]; exact h3) hL
  have kd := kd112
  refine ⟨M2, a1, by rw [e4]; exact h3, fun Q => ?_⟩
  rw [lw_head h3 hL hi, hx, hp]
  simp (disch := omega) only [s223_826, s223_827, s223_828, s223_829, s223_830, s223_831, s223_832, s223_833, s223_834, s223_835, s223_836, s223_837, s223_838, s223_839, s223_840, s223_841, s223_842, s223_843, s223_844, s223_845, s223_846, s223_847, s223_848, s223_849, s223_850, s223_851, s223_852, s223_855, s223_856, s223_857, s223_858, s223_859, s223_860, s223_861, s223_862, s223_863, s223_864, s223_865, s223_866, s223_867, s223_868, s223_869, s223_870, s223_871, s223_872, s223_873, s223_874, s223_875, s223_876, s223_877, s223_878, s223_879, s223_880, s223_881, s223_884, s223_887, s223_888, s223_1169, s223_1172, z_lt_t, z_lt_f, z_le_t, z_le_f, z_lt0, z_ge0, z_cl, z_in, z_add, z_eq_f, z_ne0, z_00, z_10, z_01, z_11, z_neg1, z_nI_NONE, z_div, z_rem, z_rem2, sw_pu_s, sw_pu_n, true_and, and_true, true_or, or_true, if_true, if_false, not_true_eq_false, not_false_eq_true, r0, r1, kd112, e1, q1, q2, eq_self]

theorem lw_23 (hO : OK T I π ρ τ θ) (hC : RC T I π ρ τ ft sv θ M) (hM : RM T I π ρ τ ft sv θ M) {L i : Nat} (h3 : M 113 0 = nI L) (hL : L < 2 ^ 30) (hi : i + 6 ≤ L) (hx : (M 112 i &&& nI 63).toInt = 23) : Lstp d L i M := by
  obtain ⟨M1, M2, r, a1, e1, e2, e3, e4, q1, q2⟩ := opp_run (d := d) (o_breaks (M 112 (i + 1)) (M 112 (i + 2)) (M 112 (i + 3))) hO hC hM
  have hp : sw_pick [0, 1, 2, 3, 4, 5, 6, 7, 8, 9, 10, 11, 12, 13, 14, 15, 16, 17, 18, 19, 20, 21, 22, 23, 24, 25, 26, 27, 28, 29, 30, 31, 32] [180, 223, 266, 329, 352, 375, 388, 401, 424, 457, 480, 503, 516, 549, 582, 615, 648, 671, 694, 717, 750, 793, 826, 889, 932, 975, 998, 1021, 1044, 1077, 1110, 1133, 1156, 1169] 23 = 889 := by decide
  have r0 := rl_L h3 hL
  have r1 := rl_L (M := M1) (by rw [e2]; exact h3) hL
  have kd := kd112
  refine ⟨M2, a1, by rw [e4]; exact h3, fun Q => ?_⟩
  rw [lw_head h3 hL hi, hx, hp]
  simp (disch := omega) only [s223_889, s223_890, s223_891, s223_892, s223_893, s223_894, s223_895, s223_896, s223_897, s223_898, s223_899, s223_900, s223_901, s223_902, s223_903, s223_904, s223_905, s223_908, s223_909, s223_910, s223_911, s223_912, s223_913, s223_914, s223_915, s223_916, s223_917, s223_918, s223_919, s223_920, s223_921, s223_922, s223_923, s223_924, s223_927, s223_930, s223_931, s223_1169, s223_1172, z_lt_t, z_lt_f, z_le_t, z_le_f, z_lt0, z_ge0, z_cl, z_in, z_add, z_eq_f, z_ne0, z_00, z_10, z_01, z_11, z_neg1, z_nI_NONE, z_div, z_rem, z_rem2, sw_pu_s, sw_pu_n, true_and, and_true, true_or, or_true, if_true, if_false, not_true_eq_false, not_false_eq_true, r0, r1, kd112, e1, q1, q2, eq_self]

theorem lw_24 (hO : OK T I π ρ τ θ) (hC : RC T I π ρ τ ft sv θ M) (hM : RM T I π ρ τ ft sv θ M) {L i : Nat} (h3 : M 113 0 = nI L) (hL : L < 2 ^ 30) (hi : i + 6 ≤ L) (hx : (M 112 i &&& nI 63).toInt = 24) : Lstp d L i M := by
  obtain ⟨M1, M2, r, a1, e1, e2, e3, e4, q1, q2⟩ := opp_run (d := d) (o_drawn (M 112 (i + 1)) (M 112 (i + 2)) (M 112 (i + 3))) hO hC hM
  have hp : sw_pick [0, 1, 2, 3, 4, 5, 6, 7, 8, 9, 10, 11, 12, 13, 14, 15, 16, 17, 18, 19, 20, 21, 22, 23, 24, 25, 26, 27, 28, 29, 30, 31, 32] [180, 223, 266, 329, 352, 375, 388, 401, 424, 457, 480, 503, 516, 549, 582, 615, 648, 671, 694, 717, 750, 793, 826, 889, 932, 975, 998, 1021, 1044, 1077, 1110, 1133, 1156, 1169] 24 = 932 := by decide
  have r0 := rl_L h3 hL
  have r1 := rl_L (M := M1) (by rw [e2]; exact h3) hL
  have kd := kd112
  refine ⟨M2, a1, by rw [e4]; exact h3, fun Q => ?_⟩
  rw [lw_head h3 hL hi, hx, hp]
  simp (disch := omega) only [s223_932, s223_933, s223_934, s223_935, s223_936, s223_937, s223_938, s223_939, s223_940, s223_941, s223_942, s223_943, s223_944, s223_945, s223_946, s223_947, s223_948, s223_951, s223_952, s223_953, s223_954, s223_955, s223_956, s223_957, s223_958, s223_959, s223_960, s223_961, s223_962, s223_963, s223_964, s223_965, s223_966, s223_967, s223_970, s223_973, s223_974, s223_1169, s223_1172, z_lt_t, z_lt_f, z_le_t, z_le_f, z_lt0, z_ge0, z_cl, z_in, z_add, z_eq_f, z_ne0, z_00, z_10, z_01, z_11, z_neg1, z_nI_NONE, z_div, z_rem, z_rem2, sw_pu_s, sw_pu_n, true_and, and_true, true_or, or_true, if_true, if_false, not_true_eq_false, not_false_eq_true, r0, r1, kd112, e1, q1, q2, eq_self]

theorem lw_25 (hO : OK T I π ρ τ θ) (hC : RC T I π ρ τ ft sv θ M) (hM : RM T I π ρ τ ft sv θ M) {L i : Nat} (h3 : M 113 0 = nI L) (hL : L < 2 ^ 30) (hi : i + 6 ≤ L) (hx : (M 112 i &&& nI 63).toInt = 25) : Lstp d L i M := by
  obtain ⟨M1, M2, r, a1, e1, e2, e3, e4, q1, q2⟩ := opp_run (d := d) (o_image (M 112 (i + 1))) hO hC hM
  have hp : sw_pick [0, 1, 2, 3, 4, 5, 6, 7, 8, 9, 10, 11, 12, 13, 14, 15, 16, 17, 18, 19, 20, 21, 22, 23, 24, 25, 26, 27, 28, 29, 30, 31, 32] [180, 223, 266, 329, 352, 375, 388, 401, 424, 457, 480, 503, 516, 549, 582, 615, 648, 671, 694, 717, 750, 793, 826, 889, 932, 975, 998, 1021, 1044, 1077, 1110, 1133, 1156, 1169] 25 = 975 := by decide
  have r0 := rl_L h3 hL
  have r1 := rl_L (M := M1) (by rw [e2]; exact h3) hL
  have kd := kd112
  refine ⟨M2, a1, by rw [e4]; exact h3, fun Q => ?_⟩
  rw [lw_head h3 hL hi, hx, hp]
  simp (disch := omega) only [s223_975, s223_976, s223_977, s223_978, s223_979, s223_980, s223_981, s223_984, s223_985, s223_986, s223_987, s223_988, s223_989, s223_990, s223_993, s223_996, s223_997, s223_1169, s223_1172, z_lt_t, z_lt_f, z_le_t, z_le_f, z_lt0, z_ge0, z_cl, z_in, z_add, z_eq_f, z_ne0, z_00, z_10, z_01, z_11, z_neg1, z_nI_NONE, z_div, z_rem, z_rem2, sw_pu_s, sw_pu_n, true_and, and_true, true_or, or_true, if_true, if_false, not_true_eq_false, not_false_eq_true, r0, r1, kd112, e1, q1, q2, eq_self]

theorem lw_26 (hO : OK T I π ρ τ θ) (hC : RC T I π ρ τ ft sv θ M) (hM : RM T I π ρ τ ft sv θ M) {L i : Nat} (h3 : M 113 0 = nI L) (hL : L < 2 ^ 30) (hi : i + 6 ≤ L) (hx : (M 112 i &&& nI 63).toInt = 26) : Lstp d L i M := by
  obtain ⟨M1, M2, r, a1, e1, e2, e3, e4, q1, q2⟩ := opp_run (d := d) (o_restore (M 112 (i + 1))) hO hC hM
  have hp : sw_pick [0, 1, 2, 3, 4, 5, 6, 7, 8, 9, 10, 11, 12, 13, 14, 15, 16, 17, 18, 19, 20, 21, 22, 23, 24, 25, 26, 27, 28, 29, 30, 31, 32] [180, 223, 266, 329, 352, 375, 388, 401, 424, 457, 480, 503, 516, 549, 582, 615, 648, 671, 694, 717, 750, 793, 826, 889, 932, 975, 998, 1021, 1044, 1077, 1110, 1133, 1156, 1169] 26 = 998 := by decide
  have r0 := rl_L h3 hL
  have r1 := rl_L (M := M1) (by rw [e2]; exact h3) hL
  have kd := kd112
  refine ⟨M2, a1, by rw [e4]; exact h3, fun Q => ?_⟩
  rw [lw_head h3 hL hi, hx, hp]
  simp (disch := omega) only [s223_998, s223_999, s223_1000, s223_1001, s223_1002, s223_1003, s223_1004, s223_1007, s223_1008, s223_1009, s223_1010, s223_1011, s223_1012, s223_1013, s223_1016, s223_1019, s223_1020, s223_1169, s223_1172, z_lt_t, z_lt_f, z_le_t, z_le_f, z_lt0, z_ge0, z_cl, z_in, z_add, z_eq_f, z_ne0, z_00, z_10, z_01, z_11, z_neg1, z_nI_NONE, z_div, z_rem, z_rem2, sw_pu_s, sw_pu_n, true_and, and_true, true_or, or_true, if_true, if_false, not_true_eq_false, not_false_eq_true, r0, r1, kd112, e1, q1, q2, eq_self]

theorem lw_27 (hO : OK T I π ρ τ θ) (hC : RC T I π ρ τ ft sv θ M) (hM : RM T I π ρ τ ft sv θ M) {L i : Nat} (h3 : M 113 0 = nI L) (hL : L < 2 ^ 30) (hi : i + 6 ≤ L) (hx : (M 112 i &&& nI 63).toInt = 27) : Lstp d L i M := by
  obtain ⟨M1, M2, r, a1, e1, e2, e3, e4, q1, q2⟩ := opp_run (d := d) (o_kind (M 112 (i + 1))) hO hC hM
  have hp : sw_pick [0, 1, 2, 3, 4, 5, 6, 7, 8, 9, 10, 11, 12, 13, 14, 15, 16, 17, 18, 19, 20, 21, 22, 23, 24, 25, 26, 27, 28, 29, 30, 31, 32] [180, 223, 266, 329, 352, 375, 388, 401, 424, 457, 480, 503, 516, 549, 582, 615, 648, 671, 694, 717, 750, 793, 826, 889, 932, 975, 998, 1021, 1044, 1077, 1110, 1133, 1156, 1169] 27 = 1021 := by decide
  have r0 := rl_L h3 hL
  have r1 := rl_L (M := M1) (by rw [e2]; exact h3) hL
  have kd := kd112
  refine ⟨M2, a1, by rw [e4]; exact h3, fun Q => ?_⟩
  rw [lw_head h3 hL hi, hx, hp]
  simp (disch := omega) only [s223_1021, s223_1022, s223_1023, s223_1024, s223_1025, s223_1026, s223_1027, s223_1030, s223_1031, s223_1032, s223_1033, s223_1034, s223_1035, s223_1036, s223_1039, s223_1042, s223_1043, s223_1169, s223_1172, z_lt_t, z_lt_f, z_le_t, z_le_f, z_lt0, z_ge0, z_cl, z_in, z_add, z_eq_f, z_ne0, z_00, z_10, z_01, z_11, z_neg1, z_nI_NONE, z_div, z_rem, z_rem2, sw_pu_s, sw_pu_n, true_and, and_true, true_or, or_true, if_true, if_false, not_true_eq_false, not_false_eq_true, r0, r1, kd112, e1, q1, q2, eq_self]

theorem lw_28 (hO : OK T I π ρ τ θ) (hC : RC T I π ρ τ ft sv θ M) (hM : RM T I π ρ τ ft sv θ M) {L i : Nat} (h3 : M 113 0 = nI L) (hL : L < 2 ^ 30) (hi : i + 6 ≤ L) (hx : (M 112 i &&& nI 63).toInt = 28) : Lstp d L i M := by
  obtain ⟨M1, M2, r, a1, e1, e2, e3, e4, q1, q2⟩ := opp_run (d := d) (o_as (M 112 (i + 1)) (M 112 (i + 2))) hO hC hM
  have hp : sw_pick [0, 1, 2, 3, 4, 5, 6, 7, 8, 9, 10, 11, 12, 13, 14, 15, 16, 17, 18, 19, 20, 21, 22, 23, 24, 25, 26, 27, 28, 29, 30, 31, 32] [180, 223, 266, 329, 352, 375, 388, 401, 424, 457, 480, 503, 516, 549, 582, 615, 648, 671, 694, 717, 750, 793, 826, 889, 932, 975, 998, 1021, 1044, 1077, 1110, 1133, 1156, 1169] 28 = 1044 := by decide
  have r0 := rl_L h3 hL
  have r1 := rl_L (M := M1) (by rw [e2]; exact h3) hL
  have kd := kd112
  refine ⟨M2, a1, by rw [e4]; exact h3, fun Q => ?_⟩
  rw [lw_head h3 hL hi, hx, hp]
  simp (disch := omega) only [s223_1044, s223_1045, s223_1046, s223_1047, s223_1048, s223_1049, s223_1050, s223_1051, s223_1052, s223_1053, s223_1054, s223_1055, s223_1058, s223_1059, s223_1060, s223_1061, s223_1062, s223_1063, s223_1064, s223_1065, s223_1066, s223_1067, s223_1068, s223_1069, s223_1072, s223_1075, s223_1076, s223_1169, s223_1172, z_lt_t, z_lt_f, z_le_t, z_le_f, z_lt0, z_ge0, z_cl, z_in, z_add, z_eq_f, z_ne0, z_00, z_10, z_01, z_11, z_neg1, z_nI_NONE, z_div, z_rem, z_rem2, sw_pu_s, sw_pu_n, true_and, and_true, true_or, or_true, if_true, if_false, not_true_eq_false, not_false_eq_true, r0, r1, kd112, e1, q1, q2, eq_self]

theorem lw_29 (hO : OK T I π ρ τ θ) (hC : RC T I π ρ τ ft sv θ M) (hM : RM T I π ρ τ ft sv θ M) {L i : Nat} (h3 : M 113 0 = nI L) (hL : L < 2 ^ 30) (hi : i + 6 ≤ L) (hx : (M 112 i &&& nI 63).toInt = 29) : Lstp d L i M := by
  obtain ⟨M1, M2, r, a1, e1, e2, e3, e4, q1, q2⟩ := opp_run (d := d) (o_ask (M 112 (i + 1)) (M 112 (i + 2))) hO hC hM
  have hp : sw_pick [0, 1, 2, 3, 4, 5, 6, 7, 8, 9, 10, 11, 12, 13, 14, 15, 16, 17, 18, 19, 20, 21, 22, 23, 24, 25, 26, 27, 28, 29, 30, 31, 32] [180, 223, 266, 329, 352, 375, 388, 401, 424, 457, 480, 503, 516, 549, 582, 615, 648, 671, 694, 717, 750, 793, 826, 889, 932, 975, 998, 1021, 1044, 1077, 1110, 1133, 1156, 1169] 29 = 1077 := by decide
  have r0 := rl_L h3 hL
  have r1 := rl_L (M := M1) (by rw [e2]; exact h3) hL
  have kd := kd112
  refine ⟨M2, a1, by rw [e4]; exact h3, fun Q => ?_⟩
  rw [lw_head h3 hL hi, hx, hp]
  simp (disch := omega) only [s223_1077, s223_1078, s223_1079, s223_1080, s223_1081, s223_1082, s223_1083, s223_1084, s223_1085, s223_1086, s223_1087, s223_1088, s223_1091, s223_1092, s223_1093, s223_1094, s223_1095, s223_1096, s223_1097, s223_1098, s223_1099, s223_1100, s223_1101, s223_1102, s223_1105, s223_1108, s223_1109, s223_1169, s223_1172, z_lt_t, z_lt_f, z_le_t, z_le_f, z_lt0, z_ge0, z_cl, z_in, z_add, z_eq_f, z_ne0, z_00, z_10, z_01, z_11, z_neg1, z_nI_NONE, z_div, z_rem, z_rem2, sw_pu_s, sw_pu_n, true_and, and_true, true_or, or_true, if_true, if_false, not_true_eq_false, not_false_eq_true, r0, r1, kd112, e1, q1, q2, eq_self]

theorem lw_30 (hO : OK T I π ρ τ θ) (hC : RC T I π ρ τ ft sv θ M) (hM : RM T I π ρ τ ft sv θ M) {L i : Nat} (h3 : M 113 0 = nI L) (hL : L < 2 ^ 30) (hi : i + 6 ≤ L) (hx : (M 112 i &&& nI 63).toInt = 30) : Lstp d L i M := by
  obtain ⟨M1, M2, r, a1, e1, e2, e3, e4, q1, q2⟩ := opp_run (d := d) (o_trace (M 112 (i + 1))) hO hC hM
  have hp : sw_pick [0, 1, 2, 3, 4, 5, 6, 7, 8, 9, 10, 11, 12, 13, 14, 15, 16, 17, 18, 19, 20, 21, 22, 23, 24, 25, 26, 27, 28, 29, 30, 31, 32] [180, 223, 266, 329, 352, 375, 388, 401, 424, 457, 480, 503, 516, 549, 582, 615, 648, 671, 694, 717, 750, 793, 826, 889, 932, 975, 998, 1021, 1044, 1077, 1110, 1133, 1156, 1169] 30 = 1110 := by decide
  have r0 := rl_L h3 hL
  have r1 := rl_L (M := M1) (by rw [e2]; exact h3) hL
  have kd := kd112
  refine ⟨M2, a1, by rw [e4]; exact h3, fun Q => ?_⟩
  rw [lw_head h3 hL hi, hx, hp]
  simp (disch := omega) only [s223_1110, s223_1111, s223_1112, s223_1113, s223_1114, s223_1115, s223_1116, s223_1119, s223_1120, s223_1121, s223_1122, s223_1123, s223_1124, s223_1125, s223_1128, s223_1131, s223_1132, s223_1169, s223_1172, z_lt_t, z_lt_f, z_le_t, z_le_f, z_lt0, z_ge0, z_cl, z_in, z_add, z_eq_f, z_ne0, z_00, z_10, z_01, z_11, z_neg1, z_nI_NONE, z_div, z_rem, z_rem2, sw_pu_s, sw_pu_n, true_and, and_true, true_or, or_true, if_true, if_false, not_true_eq_false, not_false_eq_true, r0, r1, kd112, e1, q1, q2, eq_self]

theorem lw_31 (hO : OK T I π ρ τ θ) (hC : RC T I π ρ τ ft sv θ M) (hM : RM T I π ρ τ ft sv θ M) {L i : Nat} (h3 : M 113 0 = nI L) (hL : L < 2 ^ 30) (hi : i + 6 ≤ L) (hx : (M 112 i &&& nI 63).toInt = 31) : Lstp d L i M := by
  obtain ⟨M1, M2, r, a1, e1, e2, e3, e4, q1, q2⟩ := opp_run (d := d) (o_count (M 112 (i + 1))) hO hC hM
  have hp : sw_pick [0, 1, 2, 3, 4, 5, 6, 7, 8, 9, 10, 11, 12, 13, 14, 15, 16, 17, 18, 19, 20, 21, 22, 23, 24, 25, 26, 27, 28, 29, 30, 31, 32] [180, 223, 266, 329, 352, 375, 388, 401, 424, 457, 480, 503, 516, 549, 582, 615, 648, 671, 694, 717, 750, 793, 826, 889, 932, 975, 998, 1021, 1044, 1077, 1110, 1133, 1156, 1169] 31 = 1133 := by decide
  have r0 := rl_L h3 hL
  have r1 := rl_L (M := M1) (by rw [e2]; exact h3) hL
  have kd := kd112
  refine ⟨M2, a1, by rw [e4]; exact h3, fun Q => ?_⟩
  rw [lw_head h3 hL hi, hx, hp]
  simp (disch := omega) only [s223_1133, s223_1134, s223_1135, s223_1136, s223_1137, s223_1138, s223_1139, s223_1142, s223_1143, s223_1144, s223_1145, s223_1146, s223_1147, s223_1148, s223_1151, s223_1154, s223_1155, s223_1169, s223_1172, z_lt_t, z_lt_f, z_le_t, z_le_f, z_lt0, z_ge0, z_cl, z_in, z_add, z_eq_f, z_ne0, z_00, z_10, z_01, z_11, z_neg1, z_nI_NONE, z_div, z_rem, z_rem2, sw_pu_s, sw_pu_n, true_and, and_true, true_or, or_true, if_true, if_false, not_true_eq_false, not_false_eq_true, r0, r1, kd112, e1, q1, q2, eq_self]

theorem lw_32 (hO : OK T I π ρ τ θ) (hC : RC T I π ρ τ ft sv θ M) (hM : RM T I π ρ τ ft sv θ M) {L i : Nat} (h3 : M 113 0 = nI L) (hL : L < 2 ^ 30) (hi : i + 6 ≤ L) (hx : (M 112 i &&& nI 63).toInt = 32) : Lstp d L i M := by
  obtain ⟨M1, M2, r, a1, e1, e2, e3, e4, q1, q2⟩ := opp_run (d := d) (o_status) hO hC hM
  have hp : sw_pick [0, 1, 2, 3, 4, 5, 6, 7, 8, 9, 10, 11, 12, 13, 14, 15, 16, 17, 18, 19, 20, 21, 22, 23, 24, 25, 26, 27, 28, 29, 30, 31, 32] [180, 223, 266, 329, 352, 375, 388, 401, 424, 457, 480, 503, 516, 549, 582, 615, 648, 671, 694, 717, 750, 793, 826, 889, 932, 975, 998, 1021, 1044, 1077, 1110, 1133, 1156, 1169] 32 = 1156 := by decide
  have r0 := rl_L h3 hL
  have r1 := rl_L (M := M1) (by rw [e2]; exact h3) hL
  have kd := kd112
  refine ⟨M2, a1, by rw [e4]; exact h3, fun Q => ?_⟩
  rw [lw_head h3 hL hi, hx, hp]
  simp (disch := omega) only [s223_1156, s223_1157, s223_1160, s223_1161, s223_1164, s223_1167, s223_1168, s223_1169, s223_1172, z_lt_t, z_lt_f, z_le_t, z_le_f, z_lt0, z_ge0, z_cl, z_in, z_add, z_eq_f, z_ne0, z_00, z_10, z_01, z_11, z_neg1, z_nI_NONE, z_div, z_rem, z_rem2, sw_pu_s, sw_pu_n, true_and, and_true, true_or, or_true, if_true, if_false, not_true_eq_false, not_false_eq_true, r0, r1, kd112, e1, q1, q2, eq_self]

theorem lw_no (hO : OK T I π ρ τ θ) (hC : RC T I π ρ τ ft sv θ M) (hM : RM T I π ρ τ ft sv θ M) {L i : Nat} (h3 : M 113 0 = nI L) (hL : L < 2 ^ 30) (hi : i + 6 ≤ L) (hp : sw_pick [0, 1, 2, 3, 4, 5, 6, 7, 8, 9, 10, 11, 12, 13, 14, 15, 16, 17, 18, 19, 20, 21, 22, 23, 24, 25, 26, 27, 28, 29, 30, 31, 32] [180, 223, 266, 329, 352, 375, 388, 401, 424, 457, 480, 503, 516, 549, 582, 615, 648, 671, 694, 717, 750, 793, 826, 889, 932, 975, 998, 1021, 1044, 1077, 1110, 1133, 1156, 1169] (M 112 i &&& nI 63).toInt = 1169) : Lstp d L i M := by
  refine ⟨M, ⟨T, I, π, ρ, τ, ft, sv, θ, hO, hC, hM⟩, h3, fun Q => ?_⟩
  rw [lw_head h3 hL hi, hp]
  simp (disch := omega) only [s223_1169, s223_1172, z_lt_t, z_lt_f, z_le_t, z_le_f, z_lt0, z_ge0, z_cl, z_in, z_add, z_eq_f, z_ne0, z_00, z_10, z_01, z_11, z_neg1, z_nI_NONE, z_div, z_rem, z_rem2, sw_pu_s, sw_pu_n, true_and, and_true, true_or, or_true, if_true, if_false, not_true_eq_false, not_false_eq_true]

theorem lw_step (hO : OK T I π ρ τ θ) (hC : RC T I π ρ τ ft sv θ M) (hM : RM T I π ρ τ ft sv θ M) {L i : Nat} (h3 : M 113 0 = nI L) (hL : L < 2 ^ 30) (hi : i + 6 ≤ L) : Lstp d L i M := by
  by_cases x0 : (M 112 i &&& nI 63).toInt = 0
  · exact lw_0 hO hC hM h3 hL hi x0
  by_cases x1 : (M 112 i &&& nI 63).toInt = 1
  · exact lw_1 hO hC hM h3 hL hi x1
  by_cases x2 : (M 112 i &&& nI 63).toInt = 2
  · exact lw_2 hO hC hM h3 hL hi x2
  by_cases x3 : (M 112 i &&& nI 63).toInt = 3
  · exact lw_3 hO hC hM h3 hL hi x3
  by_cases x4 : (M 112 i &&& nI 63).toInt = 4
  · exact lw_4 hO hC hM h3 hL hi x4
  by_cases x5 : (M 112 i &&& nI 63).toInt = 5
  · exact lw_5 hO hC hM h3 hL hi x5
  by_cases x6 : (M 112 i &&& nI 63).toInt = 6
  · exact lw_6 hO hC hM h3 hL hi x6
  by_cases x7 : (M 112 i &&& nI 63).toInt = 7
  · exact lw_7 hO hC hM h3 hL hi x7
  by_cases x8 : (M 112 i &&& nI 63).toInt = 8
  · exact lw_8 hO hC hM h3 hL hi x8
  by_cases x9 : (M 112 i &&& nI 63).toInt = 9
  · exact lw_9 hO hC hM h3 hL hi x9
  by_cases x10 : (M 112 i &&& nI 63).toInt = 10
  · exact lw_10 hO hC hM h3 hL hi x10
  by_cases x11 : (M 112 i &&& nI 63).toInt = 11
  · exact lw_11 hO hC hM h3 hL hi x11
  by_cases x12 : (M 112 i &&& nI 63).toInt = 12
  · exact lw_12 hO hC hM h3 hL hi x12
  by_cases x13 : (M 112 i &&& nI 63).toInt = 13
  · exact lw_13 hO hC hM h3 hL hi x13
  by_cases x14 : (M 112 i &&& nI 63).toInt = 14
  · exact lw_14 hO hC hM h3 hL hi x14
  by_cases x15 : (M 112 i &&& nI 63).toInt = 15
  · exact lw_15 hO hC hM h3 hL hi x15
  by_cases x16 : (M 112 i &&& nI 63).toInt = 16
  · exact lw_16 hO hC hM h3 hL hi x16
  by_cases x17 : (M 112 i &&& nI 63).toInt = 17
  · exact lw_17 hO hC hM h3 hL hi x17
  by_cases x18 : (M 112 i &&& nI 63).toInt = 18
  · exact lw_18 hO hC hM h3 hL hi x18
  by_cases x19 : (M 112 i &&& nI 63).toInt = 19
  · exact lw_19 hO hC hM h3 hL hi x19
  by_cases x20 : (M 112 i &&& nI 63).toInt = 20
  · exact lw_20 hO hC hM h3 hL hi x20
  by_cases x21 : (M 112 i &&& nI 63).toInt = 21
  · exact lw_21 hO hC hM h3 hL hi x21
  by_cases x22 : (M 112 i &&& nI 63).toInt = 22
  · exact lw_22 hO hC hM h3 hL hi x22
  by_cases x23 : (M 112 i &&& nI 63).toInt = 23
  · exact lw_23 hO hC hM h3 hL hi x23
  by_cases x24 : (M 112 i &&& nI 63).toInt = 24
  · exact lw_24 hO hC hM h3 hL hi x24
  by_cases x25 : (M 112 i &&& nI 63).toInt = 25
  · exact lw_25 hO hC hM h3 hL hi x25
  by_cases x26 : (M 112 i &&& nI 63).toInt = 26
  · exact lw_26 hO hC hM h3 hL hi x26
  by_cases x27 : (M 112 i &&& nI 63).toInt = 27
  · exact lw_27 hO hC hM h3 hL hi x27
  by_cases x28 : (M 112 i &&& nI 63).toInt = 28
  · exact lw_28 hO hC hM h3 hL hi x28
  by_cases x29 : (M 112 i &&& nI 63).toInt = 29
  · exact lw_29 hO hC hM h3 hL hi x29
  by_cases x30 : (M 112 i &&& nI 63).toInt = 30
  · exact lw_30 hO hC hM h3 hL hi x30
  by_cases x31 : (M 112 i &&& nI 63).toInt = 31
  · exact lw_31 hO hC hM h3 hL hi x31
  by_cases x32 : (M 112 i &&& nI 63).toInt = 32
  · exact lw_32 hO hC hM h3 hL hi x32
  refine lw_no hO hC hM h3 hL hi ?_
  generalize (M 112 i &&& nI 63).toInt = x at *
  rw [z_pk_s, if_neg x0, z_pk_s, if_neg x1, z_pk_s, if_neg x2, z_pk_s, if_neg x3, z_pk_s, if_neg x4, z_pk_s, if_neg x5, z_pk_s, if_neg x6, z_pk_s, if_neg x7, z_pk_s, if_neg x8, z_pk_s, if_neg x9, z_pk_s, if_neg x10, z_pk_s, if_neg x11, z_pk_s, if_neg x12, z_pk_s, if_neg x13, z_pk_s, if_neg x14, z_pk_s, if_neg x15, z_pk_s, if_neg x16, z_pk_s, if_neg x17, z_pk_s, if_neg x18, z_pk_s, if_neg x19, z_pk_s, if_neg x20, z_pk_s, if_neg x21, z_pk_s, if_neg x22, z_pk_s, if_neg x23, z_pk_s, if_neg x24, z_pk_s, if_neg x25, z_pk_s, if_neg x26, z_pk_s, if_neg x27, z_pk_s, if_neg x28, z_pk_s, if_neg x29, z_pk_s, if_neg x30, z_pk_s, if_neg x31, z_pk_s, if_neg x32, z_pk_n]

theorem lw_run {L : Nat} (hL : L < 2 ^ 29) : ∀ n i (M : sw_Mem), L < i + 6 * n → i < 2 ^ 29 → Wd M → M 113 0 = nI L → ∃ M', ∀ Q, sw_WP (d + 20) 223 18 [.ref 112, .ref 11, .ref 0, .int (nI i)] [] M Q = Q (some (.int (nI 1))) M' := by
  have out : ∀ i (M : sw_Mem), L < i + 6 → i < 2 ^ 29 → M 113 0 = nI L → ∃ M', ∀ Q, sw_WP (d + 20) 223 18 [.ref 112, .ref 11, .ref 0, .int (nI i)] [] M Q = Q (some (.int (nI 1))) M' := by
    intro i M h hi h3
    have r0 := rl_L h3 (by omega)
    have hc := z_lm6 (L := L) (i := i) (by omega) (by omega)
    refine ⟨M, fun Q => ?_⟩
    refine (s223_18 ..).trans ?_
    simp (disch := omega) only [s223_19, s223_20, s223_21, s223_23, s223_24, s223_1175, s223_1176, z_lt_t, z_lt_f, z_le_t, z_le_f, z_lt0, z_ge0, z_cl, z_in, z_add, z_eq_f, z_ne0, z_00, z_10, z_01, z_11, z_neg1, z_nI_NONE, z_div, z_rem, z_rem2, sw_pu_s, sw_pu_n, true_and, and_true, true_or, or_true, if_true, if_false, not_true_eq_false, not_false_eq_true, r0, hc, h]
  intro n
  induction n with
  | zero => intro i M h hi _ h3; exact out i M (by omega) hi h3
  | succ n ih =>
    intro i M h hi hW h3
    by_cases c : L < i + 6
    · exact out i M c hi h3
    · obtain ⟨T, I, π, ρ, τ, ft, sv, θ, hO, hC, hM⟩ := hW
      obtain ⟨M2, a1, a2, a3⟩ := lw_step (d := d) hO hC hM h3 (by omega) (show i + 6 ≤ L by omega)
      obtain ⟨M', b1'⟩ := ih (i + 6) M2 (by omega) (by omega) a1 a2
      exact ⟨M', fun Q => by rw [a3, b1']⟩
end LAW
