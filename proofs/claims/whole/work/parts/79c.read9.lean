section REI
variable {d p : Nat} {τ : Tp} {s : Ss} {S : Tw} {M N : sw_Mem} {Q : Option Value → sw_Mem → Prop}
set_option maxHeartbeats 2000000 in
theorem k152 (h : mR τ p N) (hO : OTp τ) (hp : p < τ.2) (hk : kOf (τ.1 p) ≠ 0) (hW : WF S) (hS : IsM N 1107 S) : ∃ N', oG τ (rnS τ S (0, p)) N N' ∧ ((rnS τ S (0, p)).1 = 0 → IsM N' 1107 (rnT τ S (0, p))) ∧ ∀ Q, sw_Cal (d + 5) 152 [.ref 0] N Q = Q (some (.int (bz (rnS τ S (0, p))))) N' := by
  have w0 := hW.1
  have w1 := hW.2.1
  have h13 := h.2
  have hol := hO.1
  have hx := hO.2 p hp
  have gp := h.1.2 p hp
  have g1 := hS 1 (by omega)
  have g1 : N 1 1108 = nI (S 1) := g1
  have hk5 := kOf_le (τ.1 p)
  have h151 := fun d N Q => k151 (d := d) (N := N) (Q := Q) (show τ.1 p < 256 by omega)
  by_cases c : 4 ≤ S 1
  · have e : rnS τ S (0, p) = (3, p) := by unfold rnS; rw [if_neg hk, if_pos c]
    rw [e]
    have f := fN.rf (N := N).up (j := 14) (x := nI 3) (by omega)
    refine ⟨_, ⟨⟨MTp_f h.1 f, by rw [z_up_j _ _ (by omega)]; exact h13⟩, fun _ => z_up_s _ _ _ _, gN.f f⟩, fun w => absurd w (Nat.succ_ne_zero 2), fun Q => ?_⟩
    rw [c152]
    have e4 : S 1 = 4 := by omega
    rw [e4] at g1
    simp (disch := omega) only [s152_0, s152_1, s152_4, s152_7, s152_8, s152_9, s152_10, s152_11, s152_14, s152_15, s152_16, s152_19, s152_20, s152_21, s152_24, s152_27, s152_28, s152_29, s152_30, s152_33, s152_34, s152_37, s152_38, s152_41, s152_42, s152_43, s152_44, s152_47, s152_48, s152_49, s152_52, s152_53, s152_56, s152_57, s152_58, s152_61, s152_64, s152_65, s152_67, s152_70, s152_73, s152_74, s152_75, s152_76, s152_79, s152_80, s152_81, s152_82, s152_84, s152_87, s152_90, s152_91, s152_92, s152_93, s152_96, s152_98, s152_101, s152_102, s152_105, s152_106, s152_109, s152_110, s152_111, s152_114, s152_116, s152_119, s152_120, s152_123, s152_124, s152_127, s152_130, s152_131, s152_134, s152_135, s152_138, s152_139, s152_142, s152_145, s152_147, s152_150, s152_151, s152_152, s152_155, s152_156, s152_157, s152_160, s152_161, s152_162, s152_165, s152_168, s152_169, s152_170, s152_171, s152_172, s152_173, s152_176, s152_179, s152_180, s152_181, s152_182, s152_183, s152_184, s152_185, s152_187, s152_190, c145, s145_0, s145_1, s145_2, s145_5, s145_6, z_lt_t, z_lt_f, z_le_t, z_le_f, z_lt0, z_ge0, z_cl, z_in, z_add, z_eq_f, z_ne0, z_00, z_10, z_01, z_11, z_neg1, z_nI_NONE, z_div, z_rem, z_rem2, sw_pu_s, sw_pu_n, true_and, and_true, true_or, or_true, if_true, if_false, not_true_eq_false, not_false_eq_true, g1]
    rfl
  have e : rnS τ S (0, p) = tkS τ 59 (btS τ S (tkS τ 44 (stS τ (0, p + 1)))) := by unfold rnS; rw [if_neg hk, if_neg c]
  have eT : rnT τ S (0, p) = upT (upT (upT (upT (upT (upT S (21 + S 1) (kOf (τ.1 p))) (25 + S 1) (st1 τ (0, p + 1))) (29 + S 1) (st2 τ (0, p + 1))) (33 + S 1) (st3 τ (0, p + 1))) (37 + S 1) (btV τ S (tkS τ 44 (stS τ (0, p + 1))))) 1 (S 1 + 1) := by unfold rnT; rw [if_neg hk, if_neg c]
  rw [e, eT]
  have S0 : IsM (sw_up N 1 (1107 + (21 + S 1)) (nI (kOf (τ.1 p)))) 1107 (upT S (21 + S 1) (kOf (τ.1 p))) := IsM.up hS _ _
  have m0 := mR_u (x := nI (kOf (τ.1 p))) (j := 1107 + (21 + S 1)) h
  have u0 : gN N (sw_up N 1 (1107 + (21 + S 1)) (nI (kOf (τ.1 p)))) := gN.u (by omega)
  rw [show 1107 + (21 + S 1) = 1128 + S 1 by omega] at S0 m0 u0
  have f1 := fN.rf (N := sw_up N 1 (1128 + S 1) (nI (kOf (τ.1 p)))).up (j := 13) (x := nI (p + 1)) (by omega)
  obtain ⟨N1, a1, a2, a3⟩ := k149 (d := d) (p := p + 1) ⟨MTp_f m0.1 f1, z_up_s _ _ _ _⟩ hO (by omega) (x := 25 + S 1) (by omega) (IsM_f S0 f1)
  rw [show 1107 + (25 + S 1) = 1132 + S 1 by omega] at a3
  have o1 : oS τ (stS τ (0, p + 1)) := stS_ok ⟨Nat.zero_le _, hp⟩
  have G1 := (u0.tr (gN.f f1)).tr a1.2.2
  by_cases c1 : (stS τ (0, p + 1)).1 = 0
  case neg =>
    have eb : tkS τ 59 (btS τ S (tkS τ 44 (stS τ (0, p + 1)))) = stS τ (0, p + 1) := by
      rw [tkS_f (c := 44) c1]
      unfold btS
      rw [nmS_f c1, if_neg (fun w => c1 w.1), tkS_f c1]
    rw [eb]
    refine ⟨N1, ⟨a1.1, a1.2.1, G1⟩, fun w => absurd w c1, fun Q => ?_⟩
    rw [bz_n c1] at a3 ⊢
    rw [c152]
    simp (disch := omega) only [s152_0, s152_1, s152_4, s152_7, s152_8, s152_9, s152_10, s152_11, s152_14, s152_15, s152_16, s152_19, s152_20, s152_21, s152_24, s152_27, s152_28, s152_29, s152_30, s152_33, s152_34, s152_37, s152_38, s152_41, s152_42, s152_43, s152_44, s152_47, s152_48, s152_49, s152_52, s152_53, s152_56, s152_57, s152_58, s152_61, s152_64, s152_65, s152_67, s152_70, s152_73, s152_74, s152_75, s152_76, s152_79, s152_80, s152_81, s152_82, s152_84, s152_87, s152_90, s152_91, s152_92, s152_93, s152_96, s152_98, s152_101, s152_102, s152_105, s152_106, s152_109, s152_110, s152_111, s152_114, s152_116, s152_119, s152_120, s152_123, s152_124, s152_127, s152_130, s152_131, s152_134, s152_135, s152_138, s152_139, s152_142, s152_145, s152_147, s152_150, s152_151, s152_152, s152_155, s152_156, s152_157, s152_160, s152_161, s152_162, s152_165, s152_168, s152_169, s152_170, s152_171, s152_172, s152_173, s152_176, s152_179, s152_180, s152_181, s152_182, s152_183, s152_184, s152_185, s152_187, s152_190, z_lt_t, z_lt_f, z_le_t, z_le_f, z_lt0, z_ge0, z_cl, z_in, z_add, z_eq_f, z_ne0, z_00, z_10, z_01, z_11, z_neg1, z_nI_NONE, z_div, z_rem, z_rem2, sw_pu_s, sw_pu_n, true_and, and_true, true_or, or_true, if_true, if_false, not_true_eq_false, not_false_eq_true, g1, h13, gp, h151, a3, z_up_n]
  have S1 := a2 c1
  rw [bz_0 c1] at a3
  rw [show 25 + S 1 + 4 = 29 + S 1 by omega, show 25 + S 1 + 8 = 33 + S 1 by omega] at S1
  obtain ⟨N2, b1', b3⟩ := k146 (d := d + 2) a1.1 hO o1.2 (c := 44) (by omega)
  rw [← s_eq c1] at b1' b3
  have o2 := tkS_ok (c := 44) o1
  have S2 := IsM_f S1 b1'.2.2
  have G2 := G1.tr (gN.f b1'.2.2)
  by_cases c2 : (tkS τ 44 (stS τ (0, p + 1))).1 = 0
  case neg =>
    have eb : tkS τ 59 (btS τ S (tkS τ 44 (stS τ (0, p + 1)))) = tkS τ 44 (stS τ (0, p + 1)) := by
      unfold btS
      rw [nmS_f c2, if_neg (fun w => c2 w.1), tkS_f c2]
    rw [eb]
    refine ⟨N2, ⟨b1'.1, b1'.2.1, G2⟩, fun w => absurd w c2, fun Q => ?_⟩
    rw [bz_n c2] at b3 ⊢
    rw [c152]
    simp (disch := omega) only [s152_0, s152_1, s152_4, s152_7, s152_8, s152_9, s152_10, s152_11, s152_14, s152_15, s152_16, s152_19, s152_20, s152_21, s152_24, s152_27, s152_28, s152_29, s152_30, s152_33, s152_34, s152_37, s152_38, s152_41, s152_42, s152_43, s152_44, s152_47, s152_48, s152_49, s152_52, s152_53, s152_56, s152_57, s152_58, s152_61, s152_64, s152_65, s152_67, s152_70, s152_73, s152_74, s152_75, s152_76, s152_79, s152_80, s152_81, s152_82, s152_84, s152_87, s152_90, s152_91, s152_92, s152_93, s152_96, s152_98, s152_101, s152_102, s152_105, s152_106, s152_109, s152_110, s152_111, s152_114, s152_116, s152_119, s152_120, s152_123, s152_124, s152_127, s152_130, s152_131, s152_134, s152_135, s152_138, s152_139, s152_142, s152_145, s152_147, s152_150, s152_151, s152_152, s152_155, s152_156, s152_157, s152_160, s152_161, s152_162, s152_165, s152_168, s152_169, s152_170, s152_171, s152_172, s152_173, s152_176, s152_179, s152_180, s152_181, s152_182, s152_183, s152_184, s152_185, s152_187, s152_190, z_lt_t, z_lt_f, z_le_t, z_le_f, z_lt0, z_ge0, z_cl, z_in, z_add, z_eq_f, z_ne0, z_00, z_10, z_01, z_11, z_neg1, z_nI_NONE, z_div, z_rem, z_rem2, sw_pu_s, sw_pu_n, true_and, and_true, true_or, or_true, if_true, if_false, not_true_eq_false, not_false_eq_true, g1, h13, gp, h151, a3, b3, z_up_n]
  rw [bz_0 c2] at b3
  have r13 := b1'.1.2
  obtain ⟨N3, e1, e2, e3⟩ := k147 (d := d + 1) b1'.1 hO o2.2 (lo := 0) (hi := 9) (by omega) (by omega)
  rw [← s_eq c2] at e1 e2 e3
  have o3 := nmS_ok (lo := 0) (hi := 9) o2
  have S3 := IsM_f S2 e1.2.2
  have G3 := G2.tr (gN.f e1.2.2)
  have hv := (nmV_le (τ := τ) (lo := 0) (hi := 9) (by omega) (tkS τ 44 (stS τ (0, p + 1)))).2
  by_cases c3 : (nmS τ 0 9 (tkS τ 44 (stS τ (0, p + 1)))).1 = 0
  case neg =>
    have eb : tkS τ 59 (btS τ S (tkS τ 44 (stS τ (0, p + 1)))) = nmS τ 0 9 (tkS τ 44 (stS τ (0, p + 1))) := by
      unfold btS
      rw [if_neg (fun w => c3 w.1), tkS_f c3]
    rw [eb]
    refine ⟨N3, ⟨e1.1, e1.2.1, G3⟩, fun w => absurd w c3, fun Q => ?_⟩
    rw [bz_n c3] at e3 ⊢
    rw [c152]
    simp (disch := omega) only [s152_0, s152_1, s152_4, s152_7, s152_8, s152_9, s152_10, s152_11, s152_14, s152_15, s152_16, s152_19, s152_20, s152_21, s152_24, s152_27, s152_28, s152_29, s152_30, s152_33, s152_34, s152_37, s152_38, s152_41, s152_42, s152_43, s152_44, s152_47, s152_48, s152_49, s152_52, s152_53, s152_56, s152_57, s152_58, s152_61, s152_64, s152_65, s152_67, s152_70, s152_73, s152_74, s152_75, s152_76, s152_79, s152_80, s152_81, s152_82, s152_84, s152_87, s152_90, s152_91, s152_92, s152_93, s152_96, s152_98, s152_101, s152_102, s152_105, s152_106, s152_109, s152_110, s152_111, s152_114, s152_116, s152_119, s152_120, s152_123, s152_124, s152_127, s152_130, s152_131, s152_134, s152_135, s152_138, s152_139, s152_142, s152_145, s152_147, s152_150, s152_151, s152_152, s152_155, s152_156, s152_157, s152_160, s152_161, s152_162, s152_165, s152_168, s152_169, s152_170, s152_171, s152_172, s152_173, s152_176, s152_179, s152_180, s152_181, s152_182, s152_183, s152_184, s152_185, s152_187, s152_190, z_lt_t, z_lt_f, z_le_t, z_le_f, z_lt0, z_ge0, z_cl, z_in, z_add, z_eq_f, z_ne0, z_00, z_10, z_01, z_11, z_neg1, z_nI_NONE, z_div, z_rem, z_rem2, sw_pu_s, sw_pu_n, true_and, and_true, true_or, or_true, if_true, if_false, not_true_eq_false, not_false_eq_true, g1, h13, gp, h151, a3, b3, r13, e3, z_up_n]
  have e2 := e2 c3
  rw [bz_0 c3] at e3
  generalize hs3 : tkS τ 44 (stS τ (0, p + 1)) = s3 at *
  generalize hbd : nmV τ 0 9 s3 = v at *
  generalize hkk : kOf (τ.1 p) = k at *
  generalize hn : S 1 = n at *
  generalize st1 τ (0, p + 1) = v1 at *
  generalize st2 τ (0, p + 1) = v2 at *
  generalize st3 τ (0, p + 1) = v3 at *
  have eo : ∀ i, i < 21 ∨ 37 ≤ i → upT (upT (upT (upT S (21 + n) k) (25 + n) v1) (29 + n) v2) (33 + n) v3 i = S i := fun i hi => by rw [upT_n _ _ (by omega), upT_n _ _ (by omega), upT_n _ _ (by omega), upT_n _ _ (by omega)]
  have eq : ∀ i q, q < n → (i = 21 ∨ i = 25 ∨ i = 29 ∨ i = 33 ∨ i = 37) → upT (upT (upT (upT S (21 + n) k) (25 + n) v1) (29 + n) v2) (33 + n) v3 (i + q) = S (i + q) := fun i q hq hi => by rw [upT_n _ _ (by omega), upT_n _ _ (by omega), upT_n _ _ (by omega), upT_n _ _ (by omega)]
  have hW' : WF (upT (upT (upT (upT S (21 + n) k) (25 + n) v1) (29 + n) v2) (33 + n) v3) := by
    obtain ⟨w0, w1, w2, w3, w4, wr, wb, wi⟩ := hW
    refine ⟨by rw [eo _ (by omega)]; exact w0, by rw [eo _ (by omega)]; exact w1, by rw [eo _ (by omega)]; exact w2, by rw [eo _ (by omega)]; exact w3, by rw [eo _ (by omega)]; exact w4, fun q hq => ?_, fun b hb => ?_, fun q hq p hp hh h4 => ?_⟩
    · rw [eo 1 (by omega), hn] at hq
      rw [eq 21 q hq (by omega), eq 25 q hq (by omega), eq 29 q hq (by omega), eq 33 q hq (by omega), eq 37 q hq (by omega), eo 0 (by omega)]
      exact wr q (by omega)
    · rw [eo 0 (by omega)] at hb
      rw [eo (5 + b) (by omega), eo (9 + b) (by omega), eo (13 + b) (by omega)]
      exact wb b hb
    · rw [eo 1 (by omega), hn] at hq hp
      rw [eq 37 q hq (by omega)] at hh h4
      rw [eq 37 p hp (by omega)] at hh
      exact wi q (by omega) p (by omega) hh h4
  have eon : ∀ b, onB (upT (upT (upT (upT S (21 + n) k) (25 + n) v1) (29 + n) v2) (33 + n) v3) b = onB S b := by
    intro b
    unfold onB
    rw [eo 1 (by omega)]
    exact onF_c (S 1) 0 (fun q hq => eq 37 q (by omega) (by omega))
  have g30 : N3 1 1107 = nI (S 0) := by
    have := S3 0 (by omega)
    rw [eo 0 (by omega)] at this
    exact this
  have g31 : N3 1 1108 = nI n := by
    have := S3 1 (by omega)
    rw [eo 1 (by omega), hn] at this
    exact this
  by_cases bad : v ≠ 9 ∧ (S 0 ≤ v ∨ onB S v ≠ 4)
  · have eb : tkS τ 59 (btS τ S s3) = (2, s3.2) := by
      have : btS τ S s3 = (2, s3.2) := by unfold btS; rw [hbd, if_pos ⟨c3, bad.1, bad.2⟩]
      rw [this]
      exact tkS_f (Nat.succ_ne_zero 1)
    rw [eb]
    have f := (fN.rf (N := N3).up (j := 13) (x := nI s3.2) (by omega)).up (j := 14) (x := nI 2) (by omega)
    refine ⟨_, ⟨⟨MTp_f e1.1.1 f, by rw [z_up_j _ _ (by omega), z_up_s]⟩, fun _ => z_up_s _ _ _ _, G3.tr (gN.f f)⟩, fun w => absurd w (Nat.succ_ne_zero 1), fun Q => ?_⟩
    rw [c152]
    by_cases hlt : v < S 0
    · have h162 := fun d Q => k162 (d := d) (Q := Q) (b := v) S3 (by omega) hW' (by omega)
      rw [eon] at h162
      have hne : onB S v ≠ 4 := by
        rcases bad.2 with q | q
        · omega
        · exact q
      rw [bn_n hne] at h162
      have hle := onB_le hW.2.1 v
      simp (disch := omega) only [s152_0, s152_1, s152_4, s152_7, s152_8, s152_9, s152_10, s152_11, s152_14, s152_15, s152_16, s152_19, s152_20, s152_21, s152_24, s152_27, s152_28, s152_29, s152_30, s152_33, s152_34, s152_37, s152_38, s152_41, s152_42, s152_43, s152_44, s152_47, s152_48, s152_49, s152_52, s152_53, s152_56, s152_57, s152_58, s152_61, s152_64, s152_65, s152_67, s152_70, s152_73, s152_74, s152_75, s152_76, s152_79, s152_80, s152_81, s152_82, s152_84, s152_87, s152_90, s152_91, s152_92, s152_93, s152_96, s152_98, s152_101, s152_102, s152_105, s152_106, s152_109, s152_110, s152_111, s152_114, s152_116, s152_119, s152_120, s152_123, s152_124, s152_127, s152_130, s152_131, s152_134, s152_135, s152_138, s152_139, s152_142, s152_145, s152_147, s152_150, s152_151, s152_152, s152_155, s152_156, s152_157, s152_160, s152_161, s152_162, s152_165, s152_168, s152_169, s152_170, s152_171, s152_172, s152_173, s152_176, s152_179, s152_180, s152_181, s152_182, s152_183, s152_184, s152_185, s152_187, s152_190, c145, s145_0, s145_1, s145_2, s145_5, s145_6, z_lt_t, z_lt_f, z_le_t, z_le_f, z_lt0, z_ge0, z_cl, z_in, z_add, z_eq_f, z_ne0, z_00, z_10, z_01, z_11, z_neg1, z_nI_NONE, z_div, z_rem, z_rem2, sw_pu_s, sw_pu_n, true_and, and_true, true_or, or_true, if_true, if_false, not_true_eq_false, not_false_eq_true, g1, h13, gp, h151, a3, b3, r13, e3, e2, g30, h162, bad.1, z_up_n]
      rfl
    · simp (disch := omega) only [s152_0, s152_1, s152_4, s152_7, s152_8, s152_9, s152_10, s152_11, s152_14, s152_15, s152_16, s152_19, s152_20, s152_21, s152_24, s152_27, s152_28, s152_29, s152_30, s152_33, s152_34, s152_37, s152_38, s152_41, s152_42, s152_43, s152_44, s152_47, s152_48, s152_49, s152_52, s152_53, s152_56, s152_57, s152_58, s152_61, s152_64, s152_65, s152_67, s152_70, s152_73, s152_74, s152_75, s152_76, s152_79, s152_80, s152_81, s152_82, s152_84, s152_87, s152_90, s152_91, s152_92, s152_93, s152_96, s152_98, s152_101, s152_102, s152_105, s152_106, s152_109, s152_110, s152_111, s152_114, s152_116, s152_119, s152_120, s152_123, s152_124, s152_127, s152_130, s152_131, s152_134, s152_135, s152_138, s152_139, s152_142, s152_145, s152_147, s152_150, s152_151, s152_152, s152_155, s152_156, s152_157, s152_160, s152_161, s152_162, s152_165, s152_168, s152_169, s152_170, s152_171, s152_172, s152_173, s152_176, s152_179, s152_180, s152_181, s152_182, s152_183, s152_184, s152_185, s152_187, s152_190, c145, s145_0, s145_1, s145_2, s145_5, s145_6, z_lt_t, z_lt_f, z_le_t, z_le_f, z_lt0, z_ge0, z_cl, z_in, z_add, z_eq_f, z_ne0, z_00, z_10, z_01, z_11, z_neg1, z_nI_NONE, z_div, z_rem, z_rem2, sw_pu_s, sw_pu_n, true_and, and_true, true_or, or_true, if_true, if_false, not_true_eq_false, not_false_eq_true, g1, h13, gp, h151, a3, b3, r13, e3, e2, g30, bad.1, z_up_n]
      rfl
  · have eb : btS τ S s3 = nmS τ 0 9 s3 := by unfold btS; rw [hbd, if_neg (fun w => bad ⟨w.2.1, w.2.2⟩)]
    rw [eb]
    have hbv : btV τ S s3 = if v = 9 then 4 else v := by
      unfold btV
      rw [hbd]
      by_cases h9 : v = 9
      · rw [if_pos h9, if_neg (fun w => w.2.1 h9)]
      · rw [if_neg h9, if_pos]
        refine ⟨c3, h9, ?_, ?_⟩
        · rcases Nat.lt_or_ge v (S 0) with q | q
          · exact q
          · exact absurd ⟨h9, Or.inl q⟩ bad
        · by_cases q : onB S v = 4
          · exact q
          · exact absurd ⟨h9, Or.inr q⟩ bad
    have S4 := IsM.up (IsM.up S3 (37 + n) (btV τ S s3)) 1 (n + 1)
    rw [show 1107 + (37 + n) = 1144 + n by omega, show 1107 + 1 = 1108 from rfl] at S4
    have m4 := mR_u (x := nI (n + 1)) (j := 1108) (mR_u (x := nI (btV τ S s3)) (j := 1144 + n) e1.1)
    obtain ⟨N5, t1, t3⟩ := k146 (d := d + 2) m4 hO o3.2 (c := 59) (by omega)
    rw [← s_eq c3] at t1 t3
    refine ⟨N5, ⟨t1.1, t1.2.1, ((G3.tr (gN.u (by omega))).tr (gN.u (by omega))).tr (gN.f t1.2.2)⟩, fun _ => IsM_f S4 t1.2.2, fun Q => ?_⟩
    have g4 : sw_up N3 1 (1144 + n) (nI (btV τ S s3)) 1 1108 = nI n := by rw [z_up_j _ _ (by omega)]; exact g31
    rw [hbv] at t3 g4
    rw [c152]
    by_cases h9 : v = 9
    · rw [if_pos h9] at t3 g4
      rw [h9] at e2
      by_cases c5 : (tkS τ 59 (nmS τ 0 9 s3)).1 = 0
      · rw [bz_0 c5] at t3 ⊢
        simp (disch := omega) only [s152_0, s152_1, s152_4, s152_7, s152_8, s152_9, s152_10, s152_11, s152_14, s152_15, s152_16, s152_19, s152_20, s152_21, s152_24, s152_27, s152_28, s152_29, s152_30, s152_33, s152_34, s152_37, s152_38, s152_41, s152_42, s152_43, s152_44, s152_47, s152_48, s152_49, s152_52, s152_53, s152_56, s152_57, s152_58, s152_61, s152_64, s152_65, s152_67, s152_70, s152_73, s152_74, s152_75, s152_76, s152_79, s152_80, s152_81, s152_82, s152_84, s152_87, s152_90, s152_91, s152_92, s152_93, s152_96, s152_98, s152_101, s152_102, s152_105, s152_106, s152_109, s152_110, s152_111, s152_114, s152_116, s152_119, s152_120, s152_123, s152_124, s152_127, s152_130, s152_131, s152_134, s152_135, s152_138, s152_139, s152_142, s152_145, s152_147, s152_150, s152_151, s152_152, s152_155, s152_156, s152_157, s152_160, s152_161, s152_162, s152_165, s152_168, s152_169, s152_170, s152_171, s152_172, s152_173, s152_176, s152_179, s152_180, s152_181, s152_182, s152_183, s152_184, s152_185, s152_187, s152_190, z_lt_t, z_lt_f, z_le_t, z_le_f, z_lt0, z_ge0, z_cl, z_in, z_add, z_eq_f, z_ne0, z_00, z_10, z_01, z_11, z_neg1, z_nI_NONE, z_div, z_rem, z_rem2, sw_pu_s, sw_pu_n, true_and, and_true, true_or, or_true, if_true, if_false, not_true_eq_false, not_false_eq_true, g1, h13, gp, h151, a3, b3, r13, e3, e2, g30, g4, t3, z_up_n]
      · rw [bz_n c5] at t3 ⊢
        simp (disch := omega) only [s152_0, s152_1, s152_4, s152_7, s152_8, s152_9, s152_10, s152_11, s152_14, s152_15, s152_16, s152_19, s152_20, s152_21, s152_24, s152_27, s152_28, s152_29, s152_30, s152_33, s152_34, s152_37, s152_38, s152_41, s152_42, s152_43, s152_44, s152_47, s152_48, s152_49, s152_52, s152_53, s152_56, s152_57, s152_58, s152_61, s152_64, s152_65, s152_67, s152_70, s152_73, s152_74, s152_75, s152_76, s152_79, s152_80, s152_81, s152_82, s152_84, s152_87, s152_90, s152_91, s152_92, s152_93, s152_96, s152_98, s152_101, s152_102, s152_105, s152_106, s152_109, s152_110, s152_111, s152_114, s152_116, s152_119, s152_120, s152_123, s152_124, s152_127, s152_130, s152_131, s152_134, s152_135, s152_138, s152_139, s152_142, s152_145, s152_147, s152_150, s152_151, s152_152, s152_155, s152_156, s152_157, s152_160, s152_161, s152_162, s152_165, s152_168, s152_169, s152_170, s152_171, s152_172, s152_173, s152_176, s152_179, s152_180, s152_181, s152_182, s152_183, s152_184, s152_185, s152_187, s152_190, z_lt_t, z_lt_f, z_le_t, z_le_f, z_lt0, z_ge0, z_cl, z_in, z_add, z_eq_f, z_ne0, z_00, z_10, z_01, z_11, z_neg1, z_nI_NONE, z_div, z_rem, z_rem2, sw_pu_s, sw_pu_n, true_and, and_true, true_or, or_true, if_true, if_false, not_true_eq_false, not_false_eq_true, g1, h13, gp, h151, a3, b3, r13, e3, e2, g30, g4, t3, z_up_n]
    · rw [if_neg h9] at t3 g4
      have hlt : v < S 0 := by
        rcases Nat.lt_or_ge v (S 0) with q | q
        · exact q
        · exact absurd ⟨h9, Or.inl q⟩ bad
      have hne : onB S v = 4 := by
        by_cases q : onB S v = 4
        · exact q
        · exact absurd ⟨h9, Or.inr q⟩ bad
      have h162 := fun d Q => k162 (d := d) (Q := Q) (b := v) S3 (by omega) hW' (by omega)
      rw [eon, hne, bn_4] at h162
      by_cases c5 : (tkS τ 59 (nmS τ 0 9 s3)).1 = 0
      · rw [bz_0 c5] at t3 ⊢
        simp (disch := omega) only [s152_0, s152_1, s152_4, s152_7, s152_8, s152_9, s152_10, s152_11, s152_14, s152_15, s152_16, s152_19, s152_20, s152_21, s152_24, s152_27, s152_28, s152_29, s152_30, s152_33, s152_34, s152_37, s152_38, s152_41, s152_42, s152_43, s152_44, s152_47, s152_48, s152_49, s152_52, s152_53, s152_56, s152_57, s152_58, s152_61, s152_64, s152_65, s152_67, s152_70, s152_73, s152_74, s152_75, s152_76, s152_79, s152_80, s152_81, s152_82, s152_84, s152_87, s152_90, s152_91, s152_92, s152_93, s152_96, s152_98, s152_101, s152_102, s152_105, s152_106, s152_109, s152_110, s152_111, s152_114, s152_116, s152_119, s152_120, s152_123, s152_124, s152_127, s152_130, s152_131, s152_134, s152_135, s152_138, s152_139, s152_142, s152_145, s152_147, s152_150, s152_151, s152_152, s152_155, s152_156, s152_157, s152_160, s152_161, s152_162, s152_165, s152_168, s152_169, s152_170, s152_171, s152_172, s152_173, s152_176, s152_179, s152_180, s152_181, s152_182, s152_183, s152_184, s152_185, s152_187, s152_190, z_lt_t, z_lt_f, z_le_t, z_le_f, z_lt0, z_ge0, z_cl, z_in, z_add, z_eq_f, z_ne0, z_00, z_10, z_01, z_11, z_neg1, z_nI_NONE, z_div, z_rem, z_rem2, sw_pu_s, sw_pu_n, true_and, and_true, true_or, or_true, if_true, if_false, not_true_eq_false, not_false_eq_true, g1, h13, gp, h151, a3, b3, r13, e3, e2, g30, h162, g4, t3, z_up_n]
      · rw [bz_n c5] at t3 ⊢
        simp (disch := omega) only [s152_0, s152_1, s152_4, s152_7, s152_8, s152_9, s152_10, s152_11, s152_14, s152_15, s152_16, s152_19, s152_20, s152_21, s152_24, s152_27, s152_28, s152_29, s152_30, s152_33, s152_34, s152_37, s152_38, s152_41, s152_42, s152_43, s152_44, s152_47, s152_48, s152_49, s152_52, s152_53, s152_56, s152_57, s152_58, s152_61, s152_64, s152_65, s152_67, s152_70, s152_73, s152_74, s152_75, s152_76, s152_79, s152_80, s152_81, s152_82, s152_84, s152_87, s152_90, s152_91, s152_92, s152_93, s152_96, s152_98, s152_101, s152_102, s152_105, s152_106, s152_109, s152_110, s152_111, s152_114, s152_116, s152_119, s152_120, s152_123, s152_124, s152_127, s152_130, s152_131, s152_134, s152_135, s152_138, s152_139, s152_142, s152_145, s152_147, s152_150, s152_151, s152_152, s152_155, s152_156, s152_157, s152_160, s152_161, s152_162, s152_165, s152_168, s152_169, s152_170, s152_171, s152_172, s152_173, s152_176, s152_179, s152_180, s152_181, s152_182, s152_183, s152_184, s152_185, s152_187, s152_190, z_lt_t, z_lt_f, z_le_t, z_le_f, z_lt0, z_ge0, z_cl, z_in, z_add, z_eq_f, z_ne0, z_00, z_10, z_01, z_11, z_neg1, z_nI_NONE, z_div, z_rem, z_rem2, sw_pu_s, sw_pu_n, true_and, and_true, true_or, or_true, if_true, if_false, not_true_eq_false, not_false_eq_true, g1, h13, gp, h151, a3, b3, r13, e3, e2, g30, h162, g4, t3, z_up_n]
end REI
