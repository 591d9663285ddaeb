section OVA
variable {T : Tw} {I : Nat → Tw} {π : Ps} {ρ : Rw} {τ : Tp} {ft sv : Int32} {θ : Tc} {M N : sw_Mem} {Q : Option Value → sw_Mem → Prop}
theorem RC_ft (h : RC T I π ρ τ ft sv θ M) (w : Int32) : RC T I π ρ τ w sv θ (sw_up M 11 8 w) := by
  obtain ⟨h1, h2, h3, h4, h5, h6, h7, h8, h9⟩ := h
  exact ⟨IsV_c h1 (fun k _ _ => z_up_n _ _ (by omega)), CIm_c h2 (fun k _ _ => z_up_n _ _ (by omega)), CPs_c h3 (fun k _ _ => z_up_n _ _ (by omega)), CRw_c h4 (fun k _ _ => z_up_n _ _ (by omega)), CTp_c h5 (fun k _ _ => z_up_n _ _ (by omega)), z_up_s _ _ _ _, (z_up_j _ _ (by omega)).trans h7, CTc_c h8 (fun k _ _ => z_up_n _ _ (by omega)), CKn_c h9 (fun k _ _ => z_up_n _ _ (by omega))⟩
theorem RM_ft (ho : π.2 ≤ 24) (h : RM T I π ρ τ ft sv θ N) (w : Int32) : RM T I π ρ τ w sv θ (sw_up N 0 9 w) := by
  obtain ⟨⟨h1, h1'⟩, h2, h3, h4, ⟨h5, h5'⟩, h6, h7, ⟨h8, h8'⟩⟩ := h
  have e : ∀ k, 1 ≤ k → sw_up N 0 9 w k = N k := fun k hk => z_up_n _ _ (by omega)
  have e0 : ∀ j, j ≠ 9 → sw_up N 0 9 w 0 j = N 0 j := fun j hj => z_up_j _ _ hj
  refine ⟨⟨IsM_c h1 (fun j _ _ => by rw [e 1 (by omega)]), by rw [e0 1 (by omega)]; exact h1'⟩, MIm_c h2 (fun j _ _ => by rw [e 1 (by omega)]) (e 2 (by omega)), MPs_c ho h3 (e0 2 (by omega)) (fun j _ _ => by rw [e 1 (by omega)]), MRw_c h4 (fun k _ _ => e k (by omega)), ⟨by rw [e0 8 (by omega)]; exact h5, by rw [e 6 (by omega)]; exact h5'⟩, z_up_s _ _ _ _, by rw [e0 10 (by omega)]; exact h7, ⟨by rw [e0 12 (by omega)]; exact h8, by rw [e 7 (by omega)]; exact h8'⟩⟩
theorem OKT_pr {τ : Tp} (hW : WF (prR τ).2) (hf : fl0 (prR τ).2) (h0 : 0 < (prR τ).2 0) : OKT (prR τ).2 := by
  obtain ⟨h4, h2, -⟩ := prR_o τ
  have w0 := hW.1
  refine ⟨hW, fun b hb => ?_, by omega, fun _ => h2, fun w => by omega⟩
  rw [hf b (by omega)]
  exact Nat.zero_le _
set_option maxHeartbeats 1000000 in
theorem o_valley : Opp 96 155 [] := by
  intro d T I π ρ τ ft sv θ M N hO hC hM
  have ho := hO.2.2.2.2.1
  obtain ⟨M1, a1, a2, a3⟩ := k32 (d := d + 13) ho hC.2.2.2.2.1
  obtain ⟨N1, b1', b2, b3⟩ := k154 (d := d + 13) hM.2.2.2.2.1 ho
  have hC1 : RC T I π ρ τ ft sv θ M1 := RC_c hC (fun k hk => a2 k (by omega))
  have hM1 : RM T I π ρ τ ft sv θ N1 := RM_c hO.2.2.1.1 hM ⟨fun j hj => b1'.2.2.2.1 j (by omega) (by omega) (by omega), fun j hj => b1'.2.2.2.2 j hj, fun k h1 h2 => b1'.2.2.1 k (by omega) (by omega)⟩
  have hC2 : RC T I π ρ (τ.1, 0) ft sv θ (sw_up M1 24 1 (nI 0)) := RC_tp hC1 ⟨z_up_s _ _ _ _, fun i hi => absurd hi (Nat.not_lt_zero i)⟩ (fun k hk => z_up_n _ _ (by omega))
  have hM2 : RM T I π ρ (τ.1, 0) ft sv θ (sw_up N1 0 8 (nI 0)) := RM_tp hM1 ⟨z_up_s _ _ _ _, fun i hi => absurd hi (Nat.not_lt_zero i)⟩ (fun k h0 _ => z_up_n _ _ h0) (fun j hj => z_up_j _ _ hj)
  have hO2 : OTp (τ.1, 0) := ⟨Nat.zero_le _, fun i hi => absurd hi (Nat.not_lt_zero i)⟩
  have n1 : noM M (sw_up M1 24 1 (nI 0)) := (show noM M M1 from fun k hk => a2 k (by omega)).up (by omega)
  have c1' : noC N (sw_up N1 0 8 (nI 0)) := (show noC N N1 from fun k hk => b1'.2.2.1 k (by omega) (by omega)).up (by omega)
  have q2 := a1.1.2.1
  have q3 := b1'.1.2
  have hs := a1.2.2.2.2.1
  by_cases c : (prR τ).1.1 = 0
  · obtain ⟨p4, p2, p0⟩ := prR_o τ
    have p0 := p0 c
    have hV := a1.2.1.1
    have hW := a1.2.2.1
    have hT := OKT_pr hW a1.2.2.2.1 p0
    have hIM := b2 c
    rw [bz_0 c] at b3
    rw [c] at a3
    generalize hS : (prR τ).2 = S at *
    have hV2 : IsV (sw_up M1 24 1 (nI 0)) 27 S := IsV_c hV (fun k _ _ => z_up_n _ _ (by omega))
    have h59 := fun d Q => k59 (d := d) (M := sw_up M1 24 1 (nI 0)) (Q := Q) kd34 kd27
    have hB := bcM_V (v := 34) hV2 kd34 hW.1 hW.2.1 (by omega)
    have hB2 := bcM_off (sw_up M1 24 1 (nI 0)) 34 27
    have h157 := fun d M Q => k157 (d := d) (M := M) (Q := Q) (a := 1107) (b := 0) (by omega) (by omega) (by omega)
    have hIM2 : IsM (sw_up N1 0 8 (nI 0)) 1107 S := IsM_c hIM (fun j _ _ => by rw [z_up_n _ _ (by omega)])
    obtain ⟨u1, nx, u2, u3, u4⟩ := hC2.2.2.1
    have g4 := hB.2.1.2.2.2.2
    have k41' : cpT (sw_up N1 0 8 (nI 0)) 1107 0 41 1 1 = nI (S 1) := (cpT_IsM (b := 0) hIM2).z 1 (by omega)
    refine ⟨S, I, (π.1, 0), ρ, (τ.1, 0), ft, sv, θ, nI (S 1), sw_up (bcM (sw_up M1 24 1 (nI 0)) 34 27) 56 2 (nI 0), sw_up (sw_up (cpT (sw_up N1 0 8 (nI 0)) 1107 0 41) 0 1 (nI 1)) 0 2 (nI 0), ⟨hT, ⟨hO.2.1.1, fun _ => p0⟩, ⟨Nat.zero_le _, fun i hi => absurd hi (Nat.not_lt_zero i)⟩, hO.2.2.2.1, hO2, hO.2.2.2.2.2⟩, ⟨RC_ac hC2 (IsV_c hB (fun q _ _ => z_up_n _ _ (by omega))) ⟨z_up_s _ _ _ _, nx, u2, ?_, fun i hi => absurd hi (Nat.not_lt_zero i)⟩ (fun q _ _ => ?_), (n1.tr (fun q hq => hB2 q (by omega))).up (by omega), fun Q => ?_⟩, RM_ac hM2 (IsM_c (cpT_IsM hIM2) (fun j _ _ => by rw [z_up_n _ _ (by omega), z_up_n _ _ (by omega)])) ?_ ⟨z_up_s _ _ _ _, fun i hi => absurd hi (Nat.not_lt_zero i)⟩ (fun q h0 h1 _ => ?_) (fun j _ _ => ?_) (fun j _ _ => ?_), ((c1'.tr (fun q hq => cpT_k (by omega))).up (by omega)).up (by omega), fun Q => ?_⟩
    · rw [z_up_j _ _ (by omega), hB2 56 (by omega)]
      exact u3
    · rw [z_up_n _ _ (by omega), hB2 q (by omega)]
    · have g4' : sw_up (bcM (sw_up M1 24 1 (nI 0)) 34 27) 56 2 (nI 0) 34 4 = nI (S 1) := by rw [z_up_n _ _ (by omega)]; exact g4
      rw [c96]
      simp (disch := omega) only [s96_0, s96_1, s96_4, s96_7, s96_8, s96_9, s96_12, s96_15, s96_18, s96_19, s96_22, s96_23, s96_24, s96_27, s96_29, s96_30, s96_33, s96_36, s96_37, s96_38, s96_39, s96_42, s96_43, s96_46, s96_49, s96_52, s96_53, s96_56, s96_59, s96_60, s96_63, s96_66, z_lt_t, z_lt_f, z_le_t, z_le_f, z_lt0, z_ge0, z_cl, z_in, z_add, z_eq_f, z_ne0, z_00, z_10, z_01, z_11, z_neg1, z_nI_NONE, z_div, z_rem, z_rem2, sw_pu_s, sw_pu_n, true_and, and_true, true_or, or_true, if_true, if_false, not_true_eq_false, not_false_eq_true, a3, c56, s56_0, s56_1, s56_2, s56_5, h59, c2, s2_0, s2_1, s2_2, s2_5, g4']
    · rw [z_up_j _ _ (by omega), z_up_s, is1_p p0]
    · rw [z_up_n _ _ h0, z_up_n _ _ h0, cpT_k h1]
    · rw [z_up_j _ _ (by omega), z_up_j _ _ (by omega), cpT_k (by omega)]
    · rw [z_up_n _ _ (by omega), z_up_n _ _ (by omega), cpT_out (by omega)]
    · rw [c155]
      simp (disch := omega) only [s155_0, s155_1, s155_4, s155_5, s155_6, s155_7, s155_10, s155_11, s155_14, s155_15, s155_16, s155_19, s155_22, s155_24, s155_25, s155_28, s155_29, s155_30, s155_31, s155_34, s155_35, s155_38, s155_39, s155_40, s155_43, s155_44, s155_45, s155_48, s155_49, s155_52, s155_53, s155_54, z_lt_t, z_lt_f, z_le_t, z_le_f, z_lt0, z_ge0, z_cl, z_in, z_add, z_eq_f, z_ne0, z_00, z_10, z_01, z_11, z_neg1, z_nI_NONE, z_div, z_rem, z_rem2, sw_pu_s, sw_pu_n, true_and, and_true, true_or, or_true, if_true, if_false, not_true_eq_false, not_false_eq_true, b3, h157, z_up_n, k41', show (nI 1 = 0 ∨ nI 1 = 1) = True from eq_true (Or.inr rfl)]
  · have hf := b1'.2.1 c
    rw [bz_n c] at b3
    refine ⟨T, I, π, ρ, (τ.1, 0), nI (prR τ).1.1, sv, θ, -1000100 - nI (prR τ).1.2, _, _, ⟨hO.1, hO.2.1, hO.2.2.1, hO.2.2.2.1, hO2, hO.2.2.2.2.2⟩, ⟨RC_ft hC2 _, n1.up (by omega), fun Q => ?_⟩, RM_ft hO.2.2.1.1 hM2 _, c1'.up (by omega), fun Q => ?_⟩
    · rw [c96]
      simp (disch := omega) only [s96_0, s96_1, s96_4, s96_7, s96_8, s96_9, s96_12, s96_15, s96_18, s96_19, s96_22, s96_23, s96_24, s96_27, s96_29, s96_30, s96_33, s96_36, s96_37, s96_38, s96_39, s96_42, s96_43, s96_46, s96_49, s96_52, s96_53, s96_56, s96_59, s96_60, s96_63, s96_66, z_lt_t, z_lt_f, z_le_t, z_le_f, z_lt0, z_ge0, z_cl, z_in, z_add, z_eq_f, z_ne0, z_00, z_10, z_01, z_11, z_neg1, z_nI_NONE, z_div, z_rem, z_rem2, sw_pu_s, sw_pu_n, true_and, and_true, true_or, or_true, if_true, if_false, not_true_eq_false, not_false_eq_true, a3, c56, s56_0, s56_1, s56_2, s56_5, q2, z_up_n]
    · have g14 : sw_up N1 0 8 (nI 0) 0 14 = nI (prR τ).1.1 := by rw [z_up_j _ _ (by omega)]; exact hf
      have g13 : sw_up (sw_up N1 0 8 (nI 0)) 0 9 (nI (prR τ).1.1) 0 13 = nI (prR τ).1.2 := by rw [z_up_j _ _ (by omega), z_up_j _ _ (by omega)]; exact q3
      rw [c155]
      simp (disch := omega) only [s155_0, s155_1, s155_4, s155_5, s155_6, s155_7, s155_10, s155_11, s155_14, s155_15, s155_16, s155_19, s155_22, s155_24, s155_25, s155_28, s155_29, s155_30, s155_31, s155_34, s155_35, s155_38, s155_39, s155_40, s155_43, s155_44, s155_45, s155_48, s155_49, s155_52, s155_53, s155_54, z_lt_t, z_lt_f, z_le_t, z_le_f, z_lt0, z_ge0, z_cl, z_in, z_add, z_eq_f, z_ne0, z_00, z_10, z_01, z_11, z_neg1, z_nI_NONE, z_div, z_rem, z_rem2, sw_pu_s, sw_pu_n, true_and, and_true, true_or, or_true, if_true, if_false, not_true_eq_false, not_false_eq_true, b3, g14, g13]
end OVA
