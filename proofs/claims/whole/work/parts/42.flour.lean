section OPI
variable {T : Tw} {I : Nat → Tw} {π : Ps} {ρ : Rw} {τ : Tp} {ft sv : Int32} {θ : Tc} {M N : sw_Mem} {d c m : Nat} {as : List Value}
theorem k177 {Q : Option Value → sw_Mem → Prop} : sw_Cal (d + 2) 177 [.ref 0] N Q = Q none (cpT N 0 1107 41) := by
  have h157 := fun d M Q => k157 (d := d) (M := M) (Q := Q) (a := 0) (b := 1107) (by omega) (by omega) (by omega)
  rw [c177]
  simp (disch := omega) only [s177_0, s177_1, s177_2, s177_5, s177_8, z_lt_t, z_lt_f, z_le_t, z_le_f, z_lt0, z_ge0, z_cl, z_in, z_add, z_eq_f, z_ne0, z_00, z_10, z_01, z_11, z_neg1, z_nI_NONE, z_div, z_rem, z_rem2, sw_pu_s, sw_pu_n, true_and, and_true, true_or, or_true, if_true, if_false, not_true_eq_false, not_false_eq_true, h157]
theorem k8 (hV : IsV M 34 T) (hT : OKT T) {n : Nat} (hn : n ≤ 60) : ∃ M', IsV M' 83 (itT T n) ∧ sC M M' ∧ ∀ Q, sw_Cal (d + 6) 8 [.ref 82, .ref 34, .int (nI n)] M Q = Q (some (.ref 83)) M' := by
  have h9 := hT.2.2.1
  have hB := bcM_V (M := M) (v := 83) hV kd_v.1 hT.1.1 hT.1.2.1 (by omega)
  have h59 := fun d Q => k59 (d := d) (M := M) (Q := Q) kd_v.1 kd34
  obtain ⟨M', a1, a2, a3⟩ := k71 (d := d) (n := n) hB hT.1 hT.2.1 (by omega) (by omega)
  refine ⟨M', a1, (sC.off (bcM_off M 83 34) (by omega)).tr (sC.off a2 (by omega)), fun Q => ?_⟩
  rw [c8]
  simp (disch := omega) only [s8_0, s8_1, s8_4, s8_5, s8_8, s8_9, s8_12, s8_13, s8_16, s8_17, s8_18, s8_21, z_lt_t, z_lt_f, z_le_t, z_le_f, z_lt0, z_ge0, z_cl, z_in, z_add, z_eq_f, z_ne0, z_00, z_10, z_01, z_11, z_neg1, z_nI_NONE, z_div, z_rem, z_rem2, sw_pu_s, sw_pu_n, true_and, and_true, true_or, or_true, if_true, if_false, not_true_eq_false, not_false_eq_true, h59, a3, kd_v.1]
theorem lay_passes (hM : IsM N 0 T) (hT : OKT T) (hL : 0 < T 2) {n : Nat} (hn : n ≤ 60) : ∃ N', IsM N' 1107 (itT T n) ∧ sM N N' ∧ ∀ Q, sw_Cal (d + 4) 166 [.ref 0, .int (nI 1107), .int (nI n)] (cpT N 0 1107 41) Q = Q (some (.int (nI (gdT T n)))) N' := by
  have h9 := hT.2.2.1
  obtain ⟨N', a1, a2, a3⟩ := k166 (d := d) (n := n) (cpT_IsM (b := 1107) hM) hT.1 hL hT.2.1 (by omega) (by omega) (by omega)
  exact ⟨N', a1, sM.cp.tr (sM.ofm a2), a3⟩
theorem o_flour (x y : Int32) : Opp 106 178 [.int x, .int y] := by
  intro d T I π ρ τ ft sv θ M N hO hC hM
  have hV := hC.1
  have hT := hM.1.1
  have hW := hO.1.1
  have w0 := hW.1
  have h64 := fun d Q => k64 (d := d) (Q := Q) hV hW x
  have h161 := fun d Q => k161 (d := d) (Q := Q) hT hW x
  by_cases b : sw_ib x (T 0)
  case neg =>
    have b := eq_false b
    refine Res_id hO hC hM (-1000001) (fun Q => ?_) (fun Q => ?_)
    · rw [c106]
      simp (disch := omega) only [s106_0, s106_1, s106_4, s106_5, s106_8, s106_11, s106_12, s106_15, s106_18, s106_20, z_lt_t, z_lt_f, z_le_t, z_le_f, z_lt0, z_ge0, z_cl, z_in, z_add, z_eq_f, z_ne0, z_00, z_10, z_01, z_11, z_neg1, z_nI_NONE, z_div, z_rem, z_rem2, sw_pu_s, sw_pu_n, true_and, and_true, true_or, or_true, if_true, if_false, not_true_eq_false, not_false_eq_true, h64, b]
    · rw [c178]
      simp (disch := omega) only [s178_0, s178_1, s178_2, s178_5, s178_8, s178_9, s178_10, s178_11, s178_14, s178_17, s178_20, s178_22, z_lt_t, z_lt_f, z_le_t, z_le_f, z_lt0, z_ge0, z_cl, z_in, z_add, z_eq_f, z_ne0, z_00, z_10, z_01, z_11, z_neg1, z_nI_NONE, z_div, z_rem, z_rem2, sw_pu_s, sw_pu_n, true_and, and_true, true_or, or_true, if_true, if_false, not_true_eq_false, not_false_eq_true, h161, b]
  have b1 := eq_true b
  simp only [b1, if_true] at h64 h161
  obtain ⟨r, hr, rfl⟩ := sw_ib_of b (by omega)
  by_cases a : 0 ≤ y.toInt ∧ y.toInt ≤ 60
  case neg =>
    refine Res_id hO hC hM (-1000001) (fun Q => ?_) (fun Q => ?_)
    · rw [c106]
      simp (disch := omega) only [s106_0, s106_1, s106_4, s106_5, s106_8, s106_11, s106_12, s106_15, s106_18, s106_20, z_lt_t, z_lt_f, z_le_t, z_le_f, z_lt0, z_ge0, z_cl, z_in, z_add, z_eq_f, z_ne0, z_00, z_10, z_01, z_11, z_neg1, z_nI_NONE, z_div, z_rem, z_rem2, sw_pu_s, sw_pu_n, true_and, and_true, true_or, or_true, if_true, if_false, not_true_eq_false, not_false_eq_true, h64, k126, ↓if_pos, ↓if_neg]
    · rw [c178]
      simp (disch := omega) only [s178_0, s178_1, s178_2, s178_5, s178_8, s178_9, s178_10, s178_11, s178_14, s178_17, s178_20, s178_22, z_lt_t, z_lt_f, z_le_t, z_le_f, z_lt0, z_ge0, z_cl, z_in, z_add, z_eq_f, z_ne0, z_00, z_10, z_01, z_11, z_neg1, z_nI_NONE, z_div, z_rem, z_rem2, sw_pu_s, sw_pu_n, true_and, and_true, true_or, or_true, if_true, if_false, not_true_eq_false, not_false_eq_true, h161, k129, z_lT, z_xT, ↓if_pos, ↓if_neg]
  obtain ⟨n, hn, rfl⟩ := sw_ib_of (x := y) (n := 61) (by rw [z_ibI]; omega) (by omega)
  obtain ⟨M', a1, a2, a3⟩ := k8 (d := d + 13) hV hO.1 (show n ≤ 60 by omega)
  obtain ⟨N', b1, b2, b3⟩ := lay_passes (d := d + 15) hT hO.1 (hO.1.2.2.2.1 (by omega)) (show n ≤ 60 by omega)
  have f1 := (a1.2.2.2 r (by rw [itT_0]; exact hr)).2.2.2
  have f2 : N' 1 (1124 + r) = nI (itT T n (17 + r)) := by
    have := b1 (17 + r) (by omega)
    rw [show 1107 + (17 + r) = 1124 + r by omega] at this
    exact this
  refine Res_scr hO hC hM (nI (itT T n (17 + r))) a2 b2 (fun Q => ?_) (fun Q => ?_)
  · rw [c106]
    simp (disch := omega) only [s106_0, s106_1, s106_4, s106_5, s106_8, s106_11, s106_12, s106_15, s106_18, s106_20, s106_21, s106_22, s106_25, s106_26, s106_29, s106_30, s106_33, s106_36, s106_37, s106_38, z_lt_t, z_lt_f, z_le_t, z_le_f, z_lt0, z_ge0, z_cl, z_in, z_add, z_eq_f, z_ne0, z_00, z_10, z_01, z_11, z_neg1, z_nI_NONE, z_div, z_rem, z_rem2, sw_pu_s, sw_pu_n, true_and, and_true, true_or, or_true, if_true, if_false, not_true_eq_false, not_false_eq_true, h64, k126, z_TI, a3, f1, kd_v.1, sw_vk6 kd_v.1, sw_vn6 kd_v.1, ↓if_pos, ↓if_neg]
  · rw [c178]
    simp (disch := omega) only [s178_0, s178_1, s178_2, s178_5, s178_8, s178_9, s178_10, s178_11, s178_14, s178_17, s178_20, s178_22, s178_23, s178_24, s178_27, s178_28, s178_31, s178_32, s178_35, s178_36, s178_37, s178_40, s178_43, s178_44, s178_45, s178_46, z_lt_t, z_lt_f, z_le_t, z_le_f, z_lt0, z_ge0, z_cl, z_in, z_add, z_eq_f, z_ne0, z_00, z_10, z_01, z_11, z_neg1, z_nI_NONE, z_div, z_rem, z_rem2, sw_pu_s, sw_pu_n, true_and, and_true, true_or, or_true, if_true, if_false, not_true_eq_false, not_false_eq_true, h161, k129, z_lT, z_xT, z_TI, k177, b3, f2, ↓if_pos, ↓if_neg]
theorem o_flourOfAll (y : Int32) : Opp 107 179 [.int y] := by
  intro d T I π ρ τ ft sv θ M N hO hC hM
  have hV := hC.1
  have hT := hM.1.1
  have hi := hM.1.2
  have hW := hO.1.1
  have w0 := hW.1
  have h9 := hO.1.2.2.1
  have h62 := fun d Q => k62 (d := d) (Q := Q) hV hW
  by_cases h0 : 0 < T 0
  case neg =>
    rw [is1_n h0] at hi
    refine Res_id hO hC hM (-1000002) (fun Q => ?_) (fun Q => ?_)
    · rw [c107]
      simp (disch := omega) only [s107_0, s107_1, s107_4, s107_7, s107_10, s107_12, z_lt_t, z_lt_f, z_le_t, z_le_f, z_lt0, z_ge0, z_cl, z_in, z_add, z_eq_f, z_ne0, z_00, z_10, z_01, z_11, z_neg1, z_nI_NONE, z_div, z_rem, z_rem2, sw_pu_s, sw_pu_n, true_and, and_true, true_or, or_true, if_true, if_false, not_true_eq_false, not_false_eq_true, h62, h0]
    · rw [c179]
      simp (disch := omega) only [s179_0, s179_1, s179_4, s179_7, s179_9, z_lt_t, z_lt_f, z_le_t, z_le_f, z_lt0, z_ge0, z_cl, z_in, z_add, z_eq_f, z_ne0, z_00, z_10, z_01, z_11, z_neg1, z_nI_NONE, z_div, z_rem, z_rem2, sw_pu_s, sw_pu_n, true_and, and_true, true_or, or_true, if_true, if_false, not_true_eq_false, not_false_eq_true, hi]
  rw [is1_p h0] at hi
  by_cases a : 0 ≤ y.toInt ∧ y.toInt ≤ 60
  case neg =>
    refine Res_id hO hC hM (-1000001) (fun Q => ?_) (fun Q => ?_)
    · rw [c107]
      simp (disch := omega) only [s107_0, s107_1, s107_4, s107_7, s107_10, s107_12, s107_13, s107_14, s107_17, s107_20, s107_21, s107_24, s107_25, s107_28, s107_29, s107_32, s107_35, s107_38, s107_40, z_lt_t, z_lt_f, z_le_t, z_le_f, z_lt0, z_ge0, z_cl, z_in, z_add, z_eq_f, z_ne0, z_00, z_10, z_01, z_11, z_neg1, z_nI_NONE, z_div, z_rem, z_rem2, sw_pu_s, sw_pu_n, true_and, and_true, true_or, or_true, if_true, if_false, not_true_eq_false, not_false_eq_true, h62, h0, k126, ↓if_pos, ↓if_neg]
    · rw [c179]
      simp (disch := omega) only [s179_0, s179_1, s179_4, s179_7, s179_9, s179_10, s179_11, s179_12, s179_13, s179_16, s179_19, s179_22, s179_24, z_lt_t, z_lt_f, z_le_t, z_le_f, z_lt0, z_ge0, z_cl, z_in, z_add, z_eq_f, z_ne0, z_00, z_10, z_01, z_11, z_neg1, z_nI_NONE, z_div, z_rem, z_rem2, sw_pu_s, sw_pu_n, true_and, and_true, true_or, or_true, if_true, if_false, not_true_eq_false, not_false_eq_true, hi, k129, z_lT, z_xT, ↓if_pos, ↓if_neg]
  obtain ⟨n, hn, rfl⟩ := sw_ib_of (x := y) (n := 61) (by rw [z_ibI]; omega) (by omega)
  obtain ⟨M', a1, a2, a3⟩ := k8 (d := d + 13) hV hO.1 (show n ≤ 60 by omega)
  obtain ⟨N', b1, b2, b3⟩ := lay_passes (d := d + 15) hT hO.1 (hO.1.2.2.2.1 (by omega)) (show n ≤ 60 by omega)
  have hW' := itT_WF n T hW (by omega)
  have hF' := itT_FB n T _ hW (by omega) hO.1.2.1
  have h76 := fun d Q => k76 (d := d) (Q := Q) a1 hW' hF' (by omega)
  have h167 := fun d Q => k167 (d := d) (Q := Q) b1 hW' (by omega) hF' (by omega)
  refine Res_scr hO hC hM (nI (flT (itT T n) (itT T n 0))) a2 b2 (fun Q => ?_) (fun Q => ?_)
  · rw [c107]
    simp (disch := omega) only [s107_0, s107_1, s107_4, s107_7, s107_10, s107_12, s107_13, s107_14, s107_17, s107_20, s107_21, s107_24, s107_25, s107_28, s107_29, s107_32, s107_35, s107_38, s107_40, z_lt_t, z_lt_f, z_le_t, z_le_f, z_lt0, z_ge0, z_cl, z_in, z_add, z_eq_f, z_ne0, z_00, z_10, z_01, z_11, z_neg1, z_nI_NONE, z_div, z_rem, z_rem2, sw_pu_s, sw_pu_n, true_and, and_true, true_or, or_true, if_true, if_false, not_true_eq_false, not_false_eq_true, h62, h0, k126, z_TI, a3, h76, kd_v.1, ↓if_pos, ↓if_neg]
  · rw [c179]
    simp (disch := omega) only [s179_0, s179_1, s179_4, s179_7, s179_9, s179_10, s179_11, s179_12, s179_13, s179_16, s179_19, s179_22, s179_24, s179_25, s179_26, s179_29, s179_30, s179_33, s179_34, s179_37, s179_38, s179_39, s179_42, s179_45, z_lt_t, z_lt_f, z_le_t, z_le_f, z_lt0, z_ge0, z_cl, z_in, z_add, z_eq_f, z_ne0, z_00, z_10, z_01, z_11, z_neg1, z_nI_NONE, z_div, z_rem, z_rem2, sw_pu_s, sw_pu_n, true_and, and_true, true_or, or_true, if_true, if_false, not_true_eq_false, not_false_eq_true, hi, k129, z_lT, z_xT, z_TI, k177, b3, h167, ↓if_pos, ↓if_neg]
/-- a pair that would rather -/
abbrev bl (T : Tw) (r b : Nat) : Prop := T (37 + r) ≠ b ∧ gnT T r < grT T r b ∧ (if onB T b = 4 then 0 else gnT T (onB T b)) < grT T r b
theorem onF_lt (T : Tw) (b : Nat) : ∀ n r, onF T b n r = 4 ∨ onF T b n r < r + n := by
  intro n
  induction n with
  | zero => intro r; exact Or.inl rfl
  | succ n ih =>
    intro r
    rw [onF_s]
    split
    · right; omega
    · rcases ih (r + 1) with h | h
      · exact Or.inl h
      · right; omega
theorem onB_lt (T : Tw) (b : Nat) : onB T b = 4 ∨ onB T b < T 1 := by
  have := onF_lt T b (T 1) 0
  unfold onB
  omega
theorem gn_le (hW : WF T) {r : Nat} (hr : r < T 1) : gnT T r ≤ 36 := by
  unfold gnT
  split
  · omega
  · rcases (hW.2.2.2.2.2.1 r hr).2.2.2.2.2 with h | h
    · contradiction
    · exact grT_le hW hr h
theorem k11 {Q : Option Value → sw_Mem → Prop} (hV : IsV M 34 T) (hW : WF T) {r b : Nat} (hr : r < T 1) (hb : b < T 0) : sw_Cal (d + 4) 11 [.ref 34, .int (nI r), .int (nI b)] M Q = if bl T r b then Q (some (.int (nI 1))) M else Q (some (.int (nI 0))) M := by
  have w0 := hW.1
  have w1 := hW.2.1
  have hv := hV.1
  have h69 := fun d Q => k69 (d := d) (Q := Q) hV hW hr hb
  have h66 := fun d Q => k66 (d := d) (Q := Q) hV hW (show b < 4 by omega)
  have h68 := fun d Q => k68 (d := d) (Q := Q) hV hW hr
  have h68o := fun d Q h => k68 (d := d) (Q := Q) (r := onB T b) hV hW h
  have r5 := (hV.2.2.1 r hr).2.2.2.2
  have y6 := (hW.2.2.2.2.2.1 r hr).2.2.2.2.2
  have g1 := grT_le hW hr hb
  have g2 := gn_le hW hr
  have g3 := onB_lt T b
  have ol := onB_le w1 (T := T) b
  rw [c11]
  by_cases h : bl T r b
  · rw [if_pos h]
    obtain ⟨e1, e2, e3⟩ := h
    by_cases e4 : onB T b = 4
    · rw [if_pos e4] at e3
      simp (disch := omega) only [s11_0, s11_1, s11_2, s11_3, s11_6, s11_7, s11_8, s11_9, s11_12, s11_14, s11_16, s11_18, s11_21, s11_22, s11_25, s11_26, s11_28, s11_31, z_lt_t, z_lt_f, z_le_t, z_le_f, z_lt0, z_ge0, z_cl, z_in, z_add, z_eq_f, z_ne0, z_00, z_10, z_01, z_11, z_neg1, z_nI_NONE, z_div, z_rem, z_rem2, sw_pu_s, sw_pu_n, true_and, and_true, true_or, or_true, if_true, if_false, not_true_eq_false, not_false_eq_true, h69, h66, e4, bn_4, r5, h68, z_bn_b]
      simp (disch := omega) only [s11_33, s11_34, s11_37, s11_38, s11_39, s11_40, s11_43, s11_44, s11_45, s11_46, s11_49, s11_52, s11_53, s11_55, s11_58, s11_59, s11_62, s11_63, z_lt_t, z_lt_f, z_le_t, z_le_f, z_lt0, z_ge0, z_cl, z_in, z_add, z_eq_f, z_ne0, z_00, z_10, z_01, z_11, z_neg1, z_nI_NONE, z_div, z_rem, z_rem2, sw_pu_s, sw_pu_n, true_and, and_true, true_or, or_true, if_true, if_false, not_true_eq_false, not_false_eq_true, h68, r5, z_bn_b, e1]
    · rw [if_neg e4] at e3
      have g4 := gn_le hW (show onB T b < T 1 by omega)
      simp (disch := omega) only [s11_0, s11_1, s11_2, s11_3, s11_6, s11_7, s11_8, s11_9, s11_12, s11_14, s11_16, s11_18, s11_21, s11_22, s11_25, s11_26, s11_28, s11_31, z_lt_t, z_lt_f, z_le_t, z_le_f, z_lt0, z_ge0, z_cl, z_in, z_add, z_eq_f, z_ne0, z_00, z_10, z_01, z_11, z_neg1, z_nI_NONE, z_div, z_rem, z_rem2, sw_pu_s, sw_pu_n, true_and, and_true, true_or, or_true, if_true, if_false, not_true_eq_false, not_false_eq_true, h69, h66, e4, bn_n, h68o]
      simp (disch := omega) only [s11_33, s11_34, s11_37, s11_38, s11_39, s11_40, s11_43, s11_44, s11_45, s11_46, s11_49, s11_52, s11_53, s11_55, s11_58, s11_59, s11_62, s11_63, z_lt_t, z_lt_f, z_le_t, z_le_f, z_lt0, z_ge0, z_cl, z_in, z_add, z_eq_f, z_ne0, z_00, z_10, z_01, z_11, z_neg1, z_nI_NONE, z_div, z_rem, z_rem2, sw_pu_s, sw_pu_n, true_and, and_true, true_or, or_true, if_true, if_false, not_true_eq_false, not_false_eq_true, h68, r5, z_bn_b, e1]
  · rw [if_neg h]
    by_cases e4 : onB T b = 4
    · simp (disch := omega) only [s11_0, s11_1, s11_2, s11_3, s11_6, s11_7, s11_8, s11_9, s11_12, s11_14, s11_16, s11_18, s11_21, s11_22, s11_25, s11_26, s11_28, s11_31, z_lt_t, z_lt_f, z_le_t, z_le_f, z_lt0, z_ge0, z_cl, z_in, z_add, z_eq_f, z_ne0, z_00, z_10, z_01, z_11, z_neg1, z_nI_NONE, z_div, z_rem, z_rem2, sw_pu_s, sw_pu_n, true_and, and_true, true_or, or_true, if_true, if_false, not_true_eq_false, not_false_eq_true, h69, h66, e4, bn_4, r5, h68, z_bn_b]
      by_cases e1 : T (37 + r) = b
      · simp (disch := omega) only [s11_33, s11_34, s11_37, s11_38, s11_39, s11_40, s11_43, s11_44, s11_45, s11_46, s11_49, s11_52, s11_53, s11_55, s11_58, s11_59, s11_62, s11_63, z_lt_t, z_lt_f, z_le_t, z_le_f, z_lt0, z_ge0, z_cl, z_in, z_add, z_eq_f, z_ne0, z_00, z_10, z_01, z_11, z_neg1, z_nI_NONE, z_div, z_rem, z_rem2, sw_pu_s, sw_pu_n, true_and, and_true, true_or, or_true, if_true, if_false, not_true_eq_false, not_false_eq_true, r5, z_bn_b, e1]
      · by_cases e2 : gnT T r < grT T r b
        · exact absurd ⟨e1, e2, by rw [if_pos e4]; omega⟩ h
        · simp (disch := omega) only [s11_33, s11_34, s11_37, s11_38, s11_39, s11_40, s11_43, s11_44, s11_45, s11_46, s11_49, s11_52, s11_53, s11_55, s11_58, s11_59, s11_62, s11_63, z_lt_t, z_lt_f, z_le_t, z_le_f, z_lt0, z_ge0, z_cl, z_in, z_add, z_eq_f, z_ne0, z_00, z_10, z_01, z_11, z_neg1, z_nI_NONE, z_div, z_rem, z_rem2, sw_pu_s, sw_pu_n, true_and, and_true, true_or, or_true, if_true, if_false, not_true_eq_false, not_false_eq_true, h68, r5, z_bn_b, e1]
    · have g4 := gn_le hW (show onB T b < T 1 by omega)
      simp (disch := omega) only [s11_0, s11_1, s11_2, s11_3, s11_6, s11_7, s11_8, s11_9, s11_12, s11_14, s11_16, s11_18, s11_21, s11_22, s11_25, s11_26, s11_28, s11_31, z_lt_t, z_lt_f, z_le_t, z_le_f, z_lt0, z_ge0, z_cl, z_in, z_add, z_eq_f, z_ne0, z_00, z_10, z_01, z_11, z_neg1, z_nI_NONE, z_div, z_rem, z_rem2, sw_pu_s, sw_pu_n, true_and, and_true, true_or, or_true, if_true, if_false, not_true_eq_false, not_false_eq_true, h69, h66, e4, bn_n, h68o]
      by_cases e1 : T (37 + r) = b
      · simp (disch := omega) only [s11_33, s11_34, s11_37, s11_38, s11_39, s11_40, s11_43, s11_44, s11_45, s11_46, s11_49, s11_52, s11_53, s11_55, s11_58, s11_59, s11_62, s11_63, z_lt_t, z_lt_f, z_le_t, z_le_f, z_lt0, z_ge0, z_cl, z_in, z_add, z_eq_f, z_ne0, z_00, z_10, z_01, z_11, z_neg1, z_nI_NONE, z_div, z_rem, z_rem2, sw_pu_s, sw_pu_n, true_and, and_true, true_or, or_true, if_true, if_false, not_true_eq_false, not_false_eq_true, r5, z_bn_b, e1]
      · by_cases e2 : gnT T r < grT T r b
        · by_cases e3 : gnT T (onB T b) < grT T r b
          · exact absurd ⟨e1, e2, by rw [if_neg e4]; exact e3⟩ h
          · simp (disch := omega) only [s11_33, s11_34, s11_37, s11_38, s11_39, s11_40, s11_43, s11_44, s11_45, s11_46, s11_49, s11_52, s11_53, s11_55, s11_58, s11_59, s11_62, s11_63, z_lt_t, z_lt_f, z_le_t, z_le_f, z_lt0, z_ge0, z_cl, z_in, z_add, z_eq_f, z_ne0, z_00, z_10, z_01, z_11, z_neg1, z_nI_NONE, z_div, z_rem, z_rem2, sw_pu_s, sw_pu_n, true_and, and_true, true_or, or_true, if_true, if_false, not_true_eq_false, not_false_eq_true, h68, r5, z_bn_b, e1]
        · simp (disch := omega) only [s11_33, s11_34, s11_37, s11_38, s11_39, s11_40, s11_43, s11_44, s11_45, s11_46, s11_49, s11_52, s11_53, s11_55, s11_58, s11_59, s11_62, s11_63, z_lt_t, z_lt_f, z_le_t, z_le_f, z_lt0, z_ge0, z_cl, z_in, z_add, z_eq_f, z_ne0, z_00, z_10, z_01, z_11, z_neg1, z_nI_NONE, z_div, z_rem, z_rem2, sw_pu_s, sw_pu_n, true_and, and_true, true_or, or_true, if_true, if_false, not_true_eq_false, not_false_eq_true, h68, r5, z_bn_b, e1]
theorem k180 {Q : Option Value → sw_Mem → Prop} (hM : IsM N 0 T) (hW : WF T) {r b : Nat} (hr : r < T 1) (hb : b < T 0) : sw_Cal (d + 4) 180 [.ref 0, .int (nI r), .int (nI b)] N Q = if bl T r b then Q (some (.int (nI 1))) N else Q (some (.int (nI 0))) N := by
  have w0 := hW.1
  have w1 := hW.2.1
  have h69 := fun d Q => k163 (d := d) (Q := Q) hM (by omega) hW hr hb
  have h66 := fun d Q => k162 (d := d) (Q := Q) hM (by omega) hW (show b < 4 by omega)
  have h68 := fun d Q => k164 (d := d) (Q := Q) hM (by omega) hW hr
  have h68o := fun d Q h => k164 (d := d) (Q := Q) (r := onB T b) hM (by omega) hW h
  have r5 := hM.z (37 + r) (by omega)
  have y6 := (hW.2.2.2.2.2.1 r hr).2.2.2.2.2
  have g1 := grT_le hW hr hb
  have g2 := gn_le hW hr
  have g3 := onB_lt T b
  have ol := onB_le w1 (T := T) b
  rw [c180]
  by_cases h : bl T r b
  · rw [if_pos h]
    obtain ⟨e1, e2, e3⟩ := h
    by_cases e4 : onB T b = 4
    · rw [if_pos e4] at e3
      simp (disch := omega) only [s180_0, s180_1, s180_2, s180_3, s180_4, s180_7, s180_8, s180_9, s180_10, s180_11, s180_14, z_lt_t, z_lt_f, z_le_t, z_le_f, z_lt0, z_ge0, z_cl, z_in, z_add, z_eq_f, z_ne0, z_00, z_10, z_01, z_11, z_neg1, z_nI_NONE, z_div, z_rem, z_rem2, sw_pu_s, sw_pu_n, true_and, and_true, true_or, or_true, if_true, if_false, not_true_eq_false, not_false_eq_true, h69, h66]
      simp (disch := omega) only [s180_16, s180_17, s180_20, s180_22, s180_23, s180_24, s180_25, s180_26, s180_29, s180_30, s180_31, s180_32, s180_33, s180_36, s180_39, s180_40, s180_42, s180_44, s180_47, s180_48, s180_51, s180_52, s180_53, s180_55, s180_58, s180_61, s180_62, s180_65, s180_66, z_lt_t, z_lt_f, z_le_t, z_le_f, z_lt0, z_ge0, z_cl, z_in, z_add, z_eq_f, z_ne0, z_00, z_10, z_01, z_11, z_neg1, z_nI_NONE, z_div, z_rem, z_rem2, sw_pu_s, sw_pu_n, true_and, and_true, true_or, or_true, if_true, if_false, not_true_eq_false, not_false_eq_true, h68, h68o, r5, bn_4, bn_n, e4, e1]
    · rw [if_neg e4] at e3
      have g4 := gn_le hW (show onB T b < T 1 by omega)
      simp (disch := omega) only [s180_0, s180_1, s180_2, s180_3, s180_4, s180_7, s180_8, s180_9, s180_10, s180_11, s180_14, z_lt_t, z_lt_f, z_le_t, z_le_f, z_lt0, z_ge0, z_cl, z_in, z_add, z_eq_f, z_ne0, z_00, z_10, z_01, z_11, z_neg1, z_nI_NONE, z_div, z_rem, z_rem2, sw_pu_s, sw_pu_n, true_and, and_true, true_or, or_true, if_true, if_false, not_true_eq_false, not_false_eq_true, h69, h66]
      simp (disch := omega) only [s180_16, s180_17, s180_20, s180_22, s180_23, s180_24, s180_25, s180_26, s180_29, s180_30, s180_31, s180_32, s180_33, s180_36, s180_39, s180_40, s180_42, s180_44, s180_47, s180_48, s180_51, s180_52, s180_53, s180_55, s180_58, s180_61, s180_62, s180_65, s180_66, z_lt_t, z_lt_f, z_le_t, z_le_f, z_lt0, z_ge0, z_cl, z_in, z_add, z_eq_f, z_ne0, z_00, z_10, z_01, z_11, z_neg1, z_nI_NONE, z_div, z_rem, z_rem2, sw_pu_s, sw_pu_n, true_and, and_true, true_or, or_true, if_true, if_false, not_true_eq_false, not_false_eq_true, h68, h68o, r5, bn_4, bn_n, e4, e1]
  · rw [if_neg h]
    by_cases e4 : onB T b = 4
    · simp (disch := omega) only [s180_0, s180_1, s180_2, s180_3, s180_4, s180_7, s180_8, s180_9, s180_10, s180_11, s180_14, z_lt_t, z_lt_f, z_le_t, z_le_f, z_lt0, z_ge0, z_cl, z_in, z_add, z_eq_f, z_ne0, z_00, z_10, z_01, z_11, z_neg1, z_nI_NONE, z_div, z_rem, z_rem2, sw_pu_s, sw_pu_n, true_and, and_true, true_or, or_true, if_true, if_false, not_true_eq_false, not_false_eq_true, h69, h66]
      by_cases e1 : T (37 + r) = b
      · simp (disch := omega) only [s180_16, s180_17, s180_20, s180_22, s180_23, s180_24, s180_25, s180_26, s180_29, s180_30, s180_31, s180_32, s180_33, s180_36, s180_39, s180_40, s180_42, s180_44, s180_47, s180_48, s180_51, s180_52, s180_53, s180_55, s180_58, s180_61, s180_62, s180_65, s180_66, z_lt_t, z_lt_f, z_le_t, z_le_f, z_lt0, z_ge0, z_cl, z_in, z_add, z_eq_f, z_ne0, z_00, z_10, z_01, z_11, z_neg1, z_nI_NONE, z_div, z_rem, z_rem2, sw_pu_s, sw_pu_n, true_and, and_true, true_or, or_true, if_true, if_false, not_true_eq_false, not_false_eq_true, r5, e1]
      · by_cases e2 : gnT T r < grT T r b
        · exact absurd ⟨e1, e2, by rw [if_pos e4]; omega⟩ h
        · simp (disch := omega) only [s180_16, s180_17, s180_20, s180_22, s180_23, s180_24, s180_25, s180_26, s180_29, s180_30, s180_31, s180_32, s180_33, s180_36, s180_39, s180_40, s180_42, s180_44, s180_47, s180_48, s180_51, s180_52, s180_53, s180_55, s180_58, s180_61, s180_62, s180_65, s180_66, z_lt_t, z_lt_f, z_le_t, z_le_f, z_lt0, z_ge0, z_cl, z_in, z_add, z_eq_f, z_ne0, z_00, z_10, z_01, z_11, z_neg1, z_nI_NONE, z_div, z_rem, z_rem2, sw_pu_s, sw_pu_n, true_and, and_true, true_or, or_true, if_true, if_false, not_true_eq_false, not_false_eq_true, h68, h68o, r5, bn_4, bn_n, e4, e1]
    · have g4 := gn_le hW (show onB T b < T 1 by omega)
      simp (disch := omega) only [s180_0, s180_1, s180_2, s180_3, s180_4, s180_7, s180_8, s180_9, s180_10, s180_11, s180_14, z_lt_t, z_lt_f, z_le_t, z_le_f, z_lt0, z_ge0, z_cl, z_in, z_add, z_eq_f, z_ne0, z_00, z_10, z_01, z_11, z_neg1, z_nI_NONE, z_div, z_rem, z_rem2, sw_pu_s, sw_pu_n, true_and, and_true, true_or, or_true, if_true, if_false, not_true_eq_false, not_false_eq_true, h69, h66]
      by_cases e1 : T (37 + r) = b
      · simp (disch := omega) only [s180_16, s180_17, s180_20, s180_22, s180_23, s180_24, s180_25, s180_26, s180_29, s180_30, s180_31, s180_32, s180_33, s180_36, s180_39, s180_40, s180_42, s180_44, s180_47, s180_48, s180_51, s180_52, s180_53, s180_55, s180_58, s180_61, s180_62, s180_65, s180_66, z_lt_t, z_lt_f, z_le_t, z_le_f, z_lt0, z_ge0, z_cl, z_in, z_add, z_eq_f, z_ne0, z_00, z_10, z_01, z_11, z_neg1, z_nI_NONE, z_div, z_rem, z_rem2, sw_pu_s, sw_pu_n, true_and, and_true, true_or, or_true, if_true, if_false, not_true_eq_false, not_false_eq_true, r5, e1]
      · by_cases e2 : gnT T r < grT T r b
        · by_cases e3 : gnT T (onB T b) < grT T r b
          · exact absurd ⟨e1, e2, by rw [if_neg e4]; exact e3⟩ h
          · simp (disch := omega) only [s180_16, s180_17, s180_20, s180_22, s180_23, s180_24, s180_25, s180_26, s180_29, s180_30, s180_31, s180_32, s180_33, s180_36, s180_39, s180_40, s180_42, s180_44, s180_47, s180_48, s180_51, s180_52, s180_53, s180_55, s180_58, s180_61, s180_62, s180_65, s180_66, z_lt_t, z_lt_f, z_le_t, z_le_f, z_lt0, z_ge0, z_cl, z_in, z_add, z_eq_f, z_ne0, z_00, z_10, z_01, z_11, z_neg1, z_nI_NONE, z_div, z_rem, z_rem2, sw_pu_s, sw_pu_n, true_and, and_true, true_or, or_true, if_true, if_false, not_true_eq_false, not_false_eq_true, h68, h68o, r5, bn_4, bn_n, e4, e1]
        · simp (disch := omega) only [s180_16, s180_17, s180_20, s180_22, s180_23, s180_24, s180_25, s180_26, s180_29, s180_30, s180_31, s180_32, s180_33, s180_36, s180_39, s180_40, s180_42, s180_44, s180_47, s180_48, s180_51, s180_52, s180_53, s180_55, s180_58, s180_61, s180_62, s180_65, s180_66, z_lt_t, z_lt_f, z_le_t, z_le_f, z_lt0, z_ge0, z_cl, z_in, z_add, z_eq_f, z_ne0, z_00, z_10, z_01, z_11, z_neg1, z_nI_NONE, z_div, z_rem, z_rem2, sw_pu_s, sw_pu_n, true_and, and_true, true_or, or_true, if_true, if_false, not_true_eq_false, not_false_eq_true, h68, h68o, r5, bn_4, bn_n, e4, e1]
end OPI
