section REH
variable {d p : Nat} {τ : Tp} {s : Ss} {S : Tw} {M N : sw_Mem} {Q : Option Value → sw_Mem → Prop}
theorem k148 (h : mR τ 0 N) (hO : OTp τ) (hS : IsM N 1107 (fun _ => 0)) : ∃ N', oG τ (lwS τ) N N' ∧ ((lwS τ).1 = 0 → IsM N' 1107 (lwT τ)) ∧ ∀ Q, sw_Cal (d + 4) 148 [.ref 0] N Q = Q (some (.int (bz (lwS τ)))) N' := by
  have o0 : oS τ (0, 0) := ⟨Nat.zero_le _, Nat.zero_le _⟩
  obtain ⟨N1, a1, a3⟩ := k146 (d := d + 1) h hO (Nat.zero_le _) (c := 109) (by omega)
  have o1 := tkS_ok (c := 109) o0
  by_cases c1 : (tkS τ 109 (0, 0)).1 = 0
  case neg =>
    have e : lwS τ = tkS τ 109 (0, 0) := by unfold lwS; rw [nmS_f c1, tkS_f c1, nmS_f c1, tkS_f c1]
    rw [e]
    refine ⟨N1, a1.G, fun w => absurd w c1, fun Q => ?_⟩
    rw [bz_n c1] at a3 ⊢
    rw [c148]
    simp (disch := omega) only [s148_0, s148_1, s148_3, s148_6, s148_9, s148_10, s148_11, s148_13, s148_16, s148_19, s148_20, s148_21, s148_22, s148_25, s148_28, s148_29, s148_32, s148_33, s148_34, s148_36, s148_39, s148_42, s148_43, s148_44, s148_46, s148_49, s148_52, s148_53, s148_54, s148_55, s148_58, s148_61, s148_62, s148_65, s148_66, s148_67, s148_69, s148_72, z_lt_t, z_lt_f, z_le_t, z_le_f, z_lt0, z_ge0, z_cl, z_in, z_add, z_eq_f, z_ne0, z_00, z_10, z_01, z_11, z_neg1, z_nI_NONE, z_div, z_rem, z_rem2, sw_pu_s, sw_pu_n, true_and, and_true, true_or, or_true, if_true, if_false, not_true_eq_false, not_false_eq_true, a3]
  rw [bz_0 c1] at a3
  have S1 := IsM_f hS a1.2.2
  obtain ⟨N2, b1', b2, b3⟩ := k147 (d := d) a1.1 hO o1.2 (lo := 1) (hi := 9) (by omega) (by omega)
  rw [← s_eq c1] at b1' b2 b3
  have o2 := nmS_ok (lo := 1) (hi := 9) o1
  have g2 : gN N N2 := (gN.f a1.2.2).tr (gN.f b1'.2.2)
  by_cases c2 : (nmS τ 1 9 (tkS τ 109 (0, 0))).1 = 0
  case neg =>
    have e : lwS τ = nmS τ 1 9 (tkS τ 109 (0, 0)) := by unfold lwS; rw [tkS_f c2, nmS_f c2, tkS_f c2]
    rw [e]
    refine ⟨N2, ⟨b1'.1, b1'.2.1, g2⟩, fun w => absurd w c2, fun Q => ?_⟩
    rw [bz_n c2] at b3 ⊢
    rw [c148]
    simp (disch := omega) only [s148_0, s148_1, s148_3, s148_6, s148_9, s148_10, s148_11, s148_13, s148_16, s148_19, s148_20, s148_21, s148_22, s148_25, s148_28, s148_29, s148_32, s148_33, s148_34, s148_36, s148_39, s148_42, s148_43, s148_44, s148_46, s148_49, s148_52, s148_53, s148_54, s148_55, s148_58, s148_61, s148_62, s148_65, s148_66, s148_67, s148_69, s148_72, z_lt_t, z_lt_f, z_le_t, z_le_f, z_lt0, z_ge0, z_cl, z_in, z_add, z_eq_f, z_ne0, z_00, z_10, z_01, z_11, z_neg1, z_nI_NONE, z_div, z_rem, z_rem2, sw_pu_s, sw_pu_n, true_and, and_true, true_or, or_true, if_true, if_false, not_true_eq_false, not_false_eq_true, a3, b3]
  have b2 := b2 c2
  rw [bz_0 c2] at b3
  have S2 := IsM.up (IsM_f S1 b1'.2.2) 2 (nmV τ 1 9 (tkS τ 109 (0, 0)))
  have m2 := mR_u (x := nI (nmV τ 1 9 (tkS τ 109 (0, 0)))) (j := 1107 + 2) b1'.1
  obtain ⟨N3, e1, e3⟩ := k146 (d := d + 1) m2 hO o2.2 (c := 44) (by omega)
  rw [← s_eq c2] at e1 e3
  have o3 := tkS_ok (c := 44) o2
  have g3 := (g2.tr (gN.u (by omega))).tr (gN.f e1.2.2)
  by_cases c3 : (tkS τ 44 (nmS τ 1 9 (tkS τ 109 (0, 0)))).1 = 0
  case neg =>
    have e : lwS τ = tkS τ 44 (nmS τ 1 9 (tkS τ 109 (0, 0))) := by unfold lwS; rw [nmS_f c3, tkS_f c3]
    rw [e]
    refine ⟨N3, ⟨e1.1, e1.2.1, g3⟩, fun w => absurd w c3, fun Q => ?_⟩
    rw [bz_n c3] at e3 ⊢
    rw [c148]
    simp (disch := omega) only [s148_0, s148_1, s148_3, s148_6, s148_9, s148_10, s148_11, s148_13, s148_16, s148_19, s148_20, s148_21, s148_22, s148_25, s148_28, s148_29, s148_32, s148_33, s148_34, s148_36, s148_39, s148_42, s148_43, s148_44, s148_46, s148_49, s148_52, s148_53, s148_54, s148_55, s148_58, s148_61, s148_62, s148_65, s148_66, s148_67, s148_69, s148_72, z_lt_t, z_lt_f, z_le_t, z_le_f, z_lt0, z_ge0, z_cl, z_in, z_add, z_eq_f, z_ne0, z_00, z_10, z_01, z_11, z_neg1, z_nI_NONE, z_div, z_rem, z_rem2, sw_pu_s, sw_pu_n, true_and, and_true, true_or, or_true, if_true, if_false, not_true_eq_false, not_false_eq_true, a3, b3, b2, e3]
  rw [bz_0 c3] at e3
  have S3 := IsM_f S2 e1.2.2
  obtain ⟨N4, q1, q2, q3⟩ := k147 (d := d) e1.1 hO o3.2 (lo := 0) (hi := 9) (by omega) (by omega)
  rw [← s_eq c3] at q1 q2 q3
  have o4 := nmS_ok (lo := 0) (hi := 9) o3
  have g4 := g3.tr (gN.f q1.2.2)
  by_cases c4 : (nmS τ 0 9 (tkS τ 44 (nmS τ 1 9 (tkS τ 109 (0, 0))))).1 = 0
  case neg =>
    have e : lwS τ = nmS τ 0 9 (tkS τ 44 (nmS τ 1 9 (tkS τ 109 (0, 0)))) := by unfold lwS; rw [tkS_f c4]
    rw [e]
    refine ⟨N4, ⟨q1.1, q1.2.1, g4⟩, fun w => absurd w c4, fun Q => ?_⟩
    rw [bz_n c4] at q3 ⊢
    rw [c148]
    simp (disch := omega) only [s148_0, s148_1, s148_3, s148_6, s148_9, s148_10, s148_11, s148_13, s148_16, s148_19, s148_20, s148_21, s148_22, s148_25, s148_28, s148_29, s148_32, s148_33, s148_34, s148_36, s148_39, s148_42, s148_43, s148_44, s148_46, s148_49, s148_52, s148_53, s148_54, s148_55, s148_58, s148_61, s148_62, s148_65, s148_66, s148_67, s148_69, s148_72, z_lt_t, z_lt_f, z_le_t, z_le_f, z_lt0, z_ge0, z_cl, z_in, z_add, z_eq_f, z_ne0, z_00, z_10, z_01, z_11, z_neg1, z_nI_NONE, z_div, z_rem, z_rem2, sw_pu_s, sw_pu_n, true_and, and_true, true_or, or_true, if_true, if_false, not_true_eq_false, not_false_eq_true, a3, b3, b2, e3, q3]
  have q2 := q2 c4
  rw [bz_0 c4] at q3
  have S4 := IsM.up (IsM_f S3 q1.2.2) 3 (nmV τ 0 9 (tkS τ 44 (nmS τ 1 9 (tkS τ 109 (0, 0)))))
  have m4 := mR_u (x := nI (nmV τ 0 9 (tkS τ 44 (nmS τ 1 9 (tkS τ 109 (0, 0)))))) (j := 1107 + 3) q1.1
  obtain ⟨N5, t1, t3⟩ := k146 (d := d + 1) m4 hO o4.2 (c := 59) (by omega)
  rw [← s_eq c4] at t1 t3
  have eL : tkS τ 59 (nmS τ 0 9 (tkS τ 44 (nmS τ 1 9 (tkS τ 109 (0, 0))))) = lwS τ := rfl
  rw [eL] at t1 t3
  refine ⟨N5, ⟨t1.1, t1.2.1, (g4.tr (gN.u (by omega))).tr (gN.f t1.2.2)⟩, fun _ => IsM_f S4 t1.2.2, fun Q => ?_⟩
  rw [c148]
  by_cases c5 : (lwS τ).1 = 0
  · rw [bz_0 c5] at t3 ⊢
    simp (disch := omega) only [s148_0, s148_1, s148_3, s148_6, s148_9, s148_10, s148_11, s148_13, s148_16, s148_19, s148_20, s148_21, s148_22, s148_25, s148_28, s148_29, s148_32, s148_33, s148_34, s148_36, s148_39, s148_42, s148_43, s148_44, s148_46, s148_49, s148_52, s148_53, s148_54, s148_55, s148_58, s148_61, s148_62, s148_65, s148_66, s148_67, s148_69, s148_72, z_lt_t, z_lt_f, z_le_t, z_le_f, z_lt0, z_ge0, z_cl, z_in, z_add, z_eq_f, z_ne0, z_00, z_10, z_01, z_11, z_neg1, z_nI_NONE, z_div, z_rem, z_rem2, sw_pu_s, sw_pu_n, true_and, and_true, true_or, or_true, if_true, if_false, not_true_eq_false, not_false_eq_true, a3, b3, b2, e3, q3, q2, t3]
  · rw [bz_n c5] at t3 ⊢
    simp (disch := omega) only [s148_0, s148_1, s148_3, s148_6, s148_9, s148_10, s148_11, s148_13, s148_16, s148_19, s148_20, s148_21, s148_22, s148_25, s148_28, s148_29, s148_32, s148_33, s148_34, s148_36, s148_39, s148_42, s148_43, s148_44, s148_46, s148_49, s148_52, s148_53, s148_54, s148_55, s148_58, s148_61, s148_62, s148_65, s148_66, s148_67, s148_69, s148_72, z_lt_t, z_lt_f, z_le_t, z_le_f, z_lt0, z_ge0, z_cl, z_in, z_add, z_eq_f, z_ne0, z_00, z_10, z_01, z_11, z_neg1, z_nI_NONE, z_div, z_rem, z_rem2, sw_pu_s, sw_pu_n, true_and, and_true, true_or, or_true, if_true, if_false, not_true_eq_false, not_false_eq_true, a3, b3, b2, e3, q3, q2, t3]
theorem k150 (h : mR τ p N) (hO : OTp τ) (hp : p < τ.2) (h98 : τ.1 p = 98) (hW : WF S) (hS : IsM N 1107 S) : ∃ N', oG τ (ebS τ S (0, p)) N N' ∧ ((ebS τ S (0, p)).1 = 0 → IsM N' 1107 (ebT τ S (0, p))) ∧ ∀ Q, sw_Cal (d + 5) 150 [.ref 0] N Q = Q (some (.int (bz (ebS τ S (0, p))))) N' := by
  have w0 := hW.1
  have h13 := h.2
  have hol := hO.1
  have g0 := hS 0 (by omega)
  have g0 : N 1 1107 = nI (S 0) := g0
  by_cases c : 4 ≤ S 0
  · have e : ebS τ S (0, p) = (3, p) := if_pos c
    rw [e]
    have f := fN.rf (N := N).up (j := 14) (x := nI 3) (by omega)
    refine ⟨_, ⟨⟨MTp_f h.1 f, by rw [z_up_j _ _ (by omega)]; exact h13⟩, fun _ => z_up_s _ _ _ _, gN.f f⟩, fun w => absurd w (Nat.succ_ne_zero 2), fun Q => ?_⟩
    rw [c150]
    have e4 : S 0 = 4 := by omega
    rw [e4] at g0
    simp (disch := omega) only [s150_0, s150_1, s150_4, s150_7, s150_8, s150_9, s150_10, s150_11, s150_14, s150_15, s150_16, s150_19, s150_20, s150_21, s150_22, s150_25, s150_26, s150_27, s150_30, s150_31, s150_34, s150_35, s150_36, s150_39, s150_42, s150_43, s150_44, s150_45, s150_48, s150_51, s150_52, s150_53, s150_54, s150_55, s150_56, s150_57, s150_59, s150_62, c145, s145_0, s145_1, s145_2, s145_5, s145_6, z_lt_t, z_lt_f, z_le_t, z_le_f, z_lt0, z_ge0, z_cl, z_in, z_add, z_eq_f, z_ne0, z_00, z_10, z_01, z_11, z_neg1, z_nI_NONE, z_div, z_rem, z_rem2, sw_pu_s, sw_pu_n, true_and, and_true, true_or, or_true, if_true, if_false, not_true_eq_false, not_false_eq_true, g0]
    rfl
  have et : tkS τ 98 (0, p) = (0, p + 1) := by unfold tkS; rw [if_pos rfl, if_pos ⟨hp, h98⟩]
  have e : ebS τ S (0, p) = tkS τ 59 (stS τ (0, p + 1)) := by unfold ebS; rw [if_neg c, et]
  have eT : ebT τ S (0, p) = upT (upT (upT (upT S (5 + S 0) (st1 τ (0, p + 1))) (9 + S 0) (st2 τ (0, p + 1))) (13 + S 0) (st3 τ (0, p + 1))) 0 (S 0 + 1) := by unfold ebT; rw [if_neg c, et]
  rw [e, eT]
  have f1 := fN.rf (N := N).up (j := 13) (x := nI (p + 1)) (by omega)
  obtain ⟨N1, a1, a2, a3⟩ := k149 (d := d) (p := p + 1) ⟨MTp_f h.1 f1, z_up_s _ _ _ _⟩ hO (by omega) (x := 5 + S 0) (by omega) (IsM_f hS f1)
  rw [show 1107 + (5 + S 0) = 1112 + S 0 by omega] at a3
  have o1 : oS τ (stS τ (0, p + 1)) := stS_ok ⟨Nat.zero_le _, hp⟩
  by_cases c1 : (stS τ (0, p + 1)).1 = 0
  case neg =>
    rw [tkS_f c1]
    refine ⟨N1, oG.pre (gN.f f1) a1, fun w => absurd w c1, fun Q => ?_⟩
    rw [bz_n c1] at a3 ⊢
    rw [c150]
    simp (disch := omega) only [s150_0, s150_1, s150_4, s150_7, s150_8, s150_9, s150_10, s150_11, s150_14, s150_15, s150_16, s150_19, s150_20, s150_21, s150_22, s150_25, s150_26, s150_27, s150_30, s150_31, s150_34, s150_35, s150_36, s150_39, s150_42, s150_43, s150_44, s150_45, s150_48, s150_51, s150_52, s150_53, s150_54, s150_55, s150_56, s150_57, s150_59, s150_62, z_lt_t, z_lt_f, z_le_t, z_le_f, z_lt0, z_ge0, z_cl, z_in, z_add, z_eq_f, z_ne0, z_00, z_10, z_01, z_11, z_neg1, z_nI_NONE, z_div, z_rem, z_rem2, sw_pu_s, sw_pu_n, true_and, and_true, true_or, or_true, if_true, if_false, not_true_eq_false, not_false_eq_true, g0, h13, a3]
  have S1 := a2 c1
  rw [bz_0 c1] at a3
  rw [show 5 + S 0 + 4 = 9 + S 0 by omega, show 5 + S 0 + 8 = 13 + S 0 by omega] at S1
  have g1 : N1 1 1107 = nI (S 0) := by
    have := S1 0 (by omega)
    rw [upT_n _ _ (by omega), upT_n _ _ (by omega), upT_n _ _ (by omega)] at this
    exact this
  have S2 : IsM (sw_up N1 1 1107 (nI (S 0 + 1))) 1107 _ := IsM.up S1 0 (S 0 + 1)
  have m2 := mR_u (x := nI (S 0 + 1)) (j := 1107) a1.1
  obtain ⟨N2, t1, t3⟩ := k146 (d := d + 2) m2 hO o1.2 (c := 59) (by omega)
  rw [← s_eq c1] at t1 t3
  refine ⟨N2, ⟨t1.1, t1.2.1, (((gN.f f1).tr a1.2.2).tr (gN.u (by omega))).tr (gN.f t1.2.2)⟩, fun _ => IsM_f S2 t1.2.2, fun Q => ?_⟩
  rw [c150]
  by_cases c5 : (tkS τ 59 (stS τ (0, p + 1))).1 = 0
  · rw [bz_0 c5] at t3 ⊢
    simp (disch := omega) only [s150_0, s150_1, s150_4, s150_7, s150_8, s150_9, s150_10, s150_11, s150_14, s150_15, s150_16, s150_19, s150_20, s150_21, s150_22, s150_25, s150_26, s150_27, s150_30, s150_31, s150_34, s150_35, s150_36, s150_39, s150_42, s150_43, s150_44, s150_45, s150_48, s150_51, s150_52, s150_53, s150_54, s150_55, s150_56, s150_57, s150_59, s150_62, z_lt_t, z_lt_f, z_le_t, z_le_f, z_lt0, z_ge0, z_cl, z_in, z_add, z_eq_f, z_ne0, z_00, z_10, z_01, z_11, z_neg1, z_nI_NONE, z_div, z_rem, z_rem2, sw_pu_s, sw_pu_n, true_and, and_true, true_or, or_true, if_true, if_false, not_true_eq_false, not_false_eq_true, g0, h13, a3, g1, t3]
  · rw [bz_n c5] at t3 ⊢
    simp (disch := omega) only [s150_0, s150_1, s150_4, s150_7, s150_8, s150_9, s150_10, s150_11, s150_14, s150_15, s150_16, s150_19, s150_20, s150_21, s150_22, s150_25, s150_26, s150_27, s150_30, s150_31, s150_34, s150_35, s150_36, s150_39, s150_42, s150_43, s150_44, s150_45, s150_48, s150_51, s150_52, s150_53, s150_54, s150_55, s150_56, s150_57, s150_59, s150_62, z_lt_t, z_lt_f, z_le_t, z_le_f, z_lt0, z_ge0, z_cl, z_in, z_add, z_eq_f, z_ne0, z_00, z_10, z_01, z_11, z_neg1, z_nI_NONE, z_div, z_rem, z_rem2, sw_pu_s, sw_pu_n, true_and, and_true, true_or, or_true, if_true, if_false, not_true_eq_false, not_false_eq_true, g0, h13, a3, g1, t3]
theorem k151 {x : Nat} (hx : x < 256) : sw_Cal (d + 1) 151 [.int (nI x)] N Q = Q (some (.int (nI (kOf x)))) N := by
  rw [c151]
  unfold kOf
  by_cases e1 : x = 103
  · subst e1; rw [if_pos rfl]; simp (disch := omega) only [s151_0, s151_1, s151_3, s151_6, s151_7, s151_10, s151_11, s151_13, s151_16, s151_17, s151_20, s151_21, s151_23, s151_26, s151_27, s151_30, s151_31, s151_33, s151_36, s151_37, s151_40, s151_41, s151_43, s151_46, s151_47, s151_50, s151_51, z_lt_t, z_lt_f, z_le_t, z_le_f, z_lt0, z_ge0, z_cl, z_in, z_add, z_eq_f, z_ne0, z_00, z_10, z_01, z_11, z_neg1, z_nI_NONE, z_div, z_rem, z_rem2, sw_pu_s, sw_pu_n, true_and, and_true, true_or, or_true, if_true, if_false, not_true_eq_false, not_false_eq_true]
  rw [if_neg e1]
  by_cases e2 : x = 102
  · subst e2; rw [if_pos rfl]; simp (disch := omega) only [s151_0, s151_1, s151_3, s151_6, s151_7, s151_10, s151_11, s151_13, s151_16, s151_17, s151_20, s151_21, s151_23, s151_26, s151_27, s151_30, s151_31, s151_33, s151_36, s151_37, s151_40, s151_41, s151_43, s151_46, s151_47, s151_50, s151_51, z_lt_t, z_lt_f, z_le_t, z_le_f, z_lt0, z_ge0, z_cl, z_in, z_add, z_eq_f, z_ne0, z_00, z_10, z_01, z_11, z_neg1, z_nI_NONE, z_div, z_rem, z_rem2, sw_pu_s, sw_pu_n, true_and, and_true, true_or, or_true, if_true, if_false, not_true_eq_false, not_false_eq_true]
  rw [if_neg e2]
  by_cases e3 : x = 115
  · subst e3; rw [if_pos rfl]; simp (disch := omega) only [s151_0, s151_1, s151_3, s151_6, s151_7, s151_10, s151_11, s151_13, s151_16, s151_17, s151_20, s151_21, s151_23, s151_26, s151_27, s151_30, s151_31, s151_33, s151_36, s151_37, s151_40, s151_41, s151_43, s151_46, s151_47, s151_50, s151_51, z_lt_t, z_lt_f, z_le_t, z_le_f, z_lt0, z_ge0, z_cl, z_in, z_add, z_eq_f, z_ne0, z_00, z_10, z_01, z_11, z_neg1, z_nI_NONE, z_div, z_rem, z_rem2, sw_pu_s, sw_pu_n, true_and, and_true, true_or, or_true, if_true, if_false, not_true_eq_false, not_false_eq_true]
  rw [if_neg e3]
  by_cases e4 : x = 111
  · subst e4; rw [if_pos rfl]; simp (disch := omega) only [s151_0, s151_1, s151_3, s151_6, s151_7, s151_10, s151_11, s151_13, s151_16, s151_17, s151_20, s151_21, s151_23, s151_26, s151_27, s151_30, s151_31, s151_33, s151_36, s151_37, s151_40, s151_41, s151_43, s151_46, s151_47, s151_50, s151_51, z_lt_t, z_lt_f, z_le_t, z_le_f, z_lt0, z_ge0, z_cl, z_in, z_add, z_eq_f, z_ne0, z_00, z_10, z_01, z_11, z_neg1, z_nI_NONE, z_div, z_rem, z_rem2, sw_pu_s, sw_pu_n, true_and, and_true, true_or, or_true, if_true, if_false, not_true_eq_false, not_false_eq_true]
  rw [if_neg e4]
  by_cases e5 : x = 119
  · subst e5; rw [if_pos rfl]; simp (disch := omega) only [s151_0, s151_1, s151_3, s151_6, s151_7, s151_10, s151_11, s151_13, s151_16, s151_17, s151_20, s151_21, s151_23, s151_26, s151_27, s151_30, s151_31, s151_33, s151_36, s151_37, s151_40, s151_41, s151_43, s151_46, s151_47, s151_50, s151_51, z_lt_t, z_lt_f, z_le_t, z_le_f, z_lt0, z_ge0, z_cl, z_in, z_add, z_eq_f, z_ne0, z_00, z_10, z_01, z_11, z_neg1, z_nI_NONE, z_div, z_rem, z_rem2, sw_pu_s, sw_pu_n, true_and, and_true, true_or, or_true, if_true, if_false, not_true_eq_false, not_false_eq_true]
  rw [if_neg e5]
  simp (disch := omega) only [s151_0, s151_1, s151_3, s151_6, s151_7, s151_10, s151_11, s151_13, s151_16, s151_17, s151_20, s151_21, s151_23, s151_26, s151_27, s151_30, s151_31, s151_33, s151_36, s151_37, s151_40, s151_41, s151_43, s151_46, s151_47, s151_50, s151_51, z_lt_t, z_lt_f, z_le_t, z_le_f, z_lt0, z_ge0, z_cl, z_in, z_add, z_eq_f, z_ne0, z_00, z_10, z_01, z_11, z_neg1, z_nI_NONE, z_div, z_rem, z_rem2, sw_pu_s, sw_pu_n, true_and, and_true, true_or, or_true, if_true, if_false, not_true_eq_false, not_false_eq_true]
theorem onF_c {T T' : Tw} {b : Nat} : ∀ n r, (∀ q, q < r + n → T' (37 + q) = T (37 + q)) → onF T' b n r = onF T b n r := by
  intro n
  induction n with
  | zero => intro r _; rfl
  | succ n ih =>
    intro r h
    rw [onF_s, onF_s, h r (by omega), ih (r + 1) (fun q hq => h q (by omega))]
end REH
