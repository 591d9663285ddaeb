section MOR
variable {T : Tw} {I : Nat → Tw} {π : Ps} {ρ : Rw} {τ : Tp} {ft sv : Int32} {θ : Tc} {M N : sw_Mem} {d e q sp : Nat} {s : St} {Q : Option Value → sw_Mem → Prop}
set_option maxHeartbeats 1000000 in
theorem o_moved (x y k : Int32) : Opp 111 193 [.int x, .int y, .int k] := by
  intro d T I π ρ τ ft sv θ M N hO hC hM
  have hV := hC.1
  have hT := hM.1.1
  have hi := hM.1.2
  have hW := hO.1.1
  have w0 := hW.1
  have w1 := hW.2.1
  have h62 := fun d Q => k62 (d := d) (Q := Q) hV hW
  by_cases h0 : 0 < T 0
  case neg =>
    rw [is1_n h0] at hi
    refine Res_id hO hC hM (-1000002) (fun Q => ?_) (fun Q => ?_)
    · rw [c111]
      simp (disch := omega) only [s111_0, s111_1, s111_4, s111_7, s111_10, s111_12, z_lt_t, z_lt_f, z_le_t, z_le_f, z_lt0, z_ge0, z_cl, z_in, z_add, z_eq_f, z_ne0, z_00, z_10, z_01, z_11, z_neg1, z_nI_NONE, z_div, z_rem, z_rem2, sw_pu_s, sw_pu_n, true_and, and_true, true_or, or_true, if_true, if_false, not_true_eq_false, not_false_eq_true, h62, h0]
    · rw [c193]
      simp (disch := omega) only [s193_0, s193_1, s193_4, s193_7, s193_9, z_lt_t, z_lt_f, z_le_t, z_le_f, z_lt0, z_ge0, z_cl, z_in, z_add, z_eq_f, z_ne0, z_00, z_10, z_01, z_11, z_neg1, z_nI_NONE, z_div, z_rem, z_rem2, sw_pu_s, sw_pu_n, true_and, and_true, true_or, or_true, if_true, if_false, not_true_eq_false, not_false_eq_true, hi]
  rw [is1_p h0] at hi
  by_cases a : (0 ≤ x.toInt ∧ x.toInt ≤ 60) ∧ (0 ≤ y.toInt ∧ y.toInt ≤ 999) ∧ (-1 ≤ k.toInt ∧ k.toInt ≤ 3)
  case neg =>
    refine Res_id hO hC hM (-1000001) (fun Q => ?_) (fun Q => ?_)
    · rw [c111]
      by_cases a1 : 0 ≤ x.toInt ∧ x.toInt ≤ 60
      · by_cases a2 : 0 ≤ y.toInt ∧ y.toInt ≤ 999
        · simp (disch := omega) only [s111_0, s111_1, s111_4, s111_7, s111_10, s111_12, s111_13, s111_14, s111_17, s111_20, s111_21, s111_24, s111_27, s111_28, s111_31, s111_34, s111_36, z_lt_t, z_lt_f, z_le_t, z_le_f, z_lt0, z_ge0, z_cl, z_in, z_add, z_eq_f, z_ne0, z_00, z_10, z_01, z_11, z_neg1, z_nI_NONE, z_div, z_rem, z_rem2, sw_pu_s, sw_pu_n, true_and, and_true, true_or, or_true, if_true, if_false, not_true_eq_false, not_false_eq_true, h62, h0, k126, k127, k128, ↓if_pos, ↓if_neg]
        · simp (disch := omega) only [s111_0, s111_1, s111_4, s111_7, s111_10, s111_12, s111_13, s111_14, s111_17, s111_20, s111_21, s111_24, s111_27, s111_28, s111_31, s111_34, s111_36, z_lt_t, z_lt_f, z_le_t, z_le_f, z_lt0, z_ge0, z_cl, z_in, z_add, z_eq_f, z_ne0, z_00, z_10, z_01, z_11, z_neg1, z_nI_NONE, z_div, z_rem, z_rem2, sw_pu_s, sw_pu_n, true_and, and_true, true_or, or_true, if_true, if_false, not_true_eq_false, not_false_eq_true, h62, h0, k126, k127, ↓if_pos, ↓if_neg]
      · simp (disch := omega) only [s111_0, s111_1, s111_4, s111_7, s111_10, s111_12, s111_13, s111_14, s111_17, s111_20, s111_21, s111_24, s111_27, s111_28, s111_31, s111_34, s111_36, z_lt_t, z_lt_f, z_le_t, z_le_f, z_lt0, z_ge0, z_cl, z_in, z_add, z_eq_f, z_ne0, z_00, z_10, z_01, z_11, z_neg1, z_nI_NONE, z_div, z_rem, z_rem2, sw_pu_s, sw_pu_n, true_and, and_true, true_or, or_true, if_true, if_false, not_true_eq_false, not_false_eq_true, h62, h0, k126, ↓if_pos, ↓if_neg]
    · rw [c193]
      by_cases a1 : 0 ≤ x.toInt ∧ x.toInt ≤ 60
      · by_cases a2 : 0 ≤ y.toInt ∧ y.toInt ≤ 999
        · simp (disch := omega) only [s193_0, s193_1, s193_4, s193_7, s193_9, s193_10, s193_11, s193_12, s193_13, s193_16, s193_19, s193_22, s193_23, s193_24, s193_25, s193_28, s193_31, s193_34, s193_35, s193_36, s193_39, s193_42, s193_45, s193_48, s193_50, z_lt_t, z_lt_f, z_le_t, z_le_f, z_lt0, z_ge0, z_cl, z_in, z_add, z_eq_f, z_ne0, z_00, z_10, z_01, z_11, z_neg1, z_nI_NONE, z_div, z_rem, z_rem2, sw_pu_s, sw_pu_n, true_and, and_true, true_or, or_true, if_true, if_false, not_true_eq_false, not_false_eq_true, hi, k129, z_lT, z_xT, z_m1L, ↓if_pos, ↓if_neg]
        · simp (disch := omega) only [s193_0, s193_1, s193_4, s193_7, s193_9, s193_10, s193_11, s193_12, s193_13, s193_16, s193_19, s193_22, s193_23, s193_24, s193_25, s193_28, s193_31, s193_34, s193_35, s193_36, s193_39, s193_42, s193_45, s193_48, s193_50, z_lt_t, z_lt_f, z_le_t, z_le_f, z_lt0, z_ge0, z_cl, z_in, z_add, z_eq_f, z_ne0, z_00, z_10, z_01, z_11, z_neg1, z_nI_NONE, z_div, z_rem, z_rem2, sw_pu_s, sw_pu_n, true_and, and_true, true_or, or_true, if_true, if_false, not_true_eq_false, not_false_eq_true, hi, k129, z_lT, z_xT, ↓if_pos, ↓if_neg]
      · simp (disch := omega) only [s193_0, s193_1, s193_4, s193_7, s193_9, s193_10, s193_11, s193_12, s193_13, s193_16, s193_19, s193_22, s193_23, s193_24, s193_25, s193_28, s193_31, s193_34, s193_35, s193_36, s193_39, s193_42, s193_45, s193_48, s193_50, z_lt_t, z_lt_f, z_le_t, z_le_f, z_lt0, z_ge0, z_cl, z_in, z_add, z_eq_f, z_ne0, z_00, z_10, z_01, z_11, z_neg1, z_nI_NONE, z_div, z_rem, z_rem2, sw_pu_s, sw_pu_n, true_and, and_true, true_or, or_true, if_true, if_false, not_true_eq_false, not_false_eq_true, hi, k129, z_lT, z_xT, ↓if_pos, ↓if_neg]
  obtain ⟨e, he, rfl⟩ := sw_ib_of (x := x) (n := 61) (by rw [z_ibI]; omega) (by omega)
  obtain ⟨q, hq, rfl⟩ := sw_ib_of (x := y) (n := 1000) (by rw [z_ibI]; omega) (by omega)
  obtain ⟨M1, p1, p2, p3, p4, p5⟩ := k85 (d := d + 13) (e := e) hV hO.1 (by omega)
  obtain ⟨M2, m1, m2, m3, m4, m5⟩ := k88 (d := d + 7) (e := e) (q := q) (sp := 1) (M := sw_up M1 91 7 (nI 1)) hO.1 (by omega) (by omega) (Or.inr rfl) (fun w => absurd w (by decide)) (IsV_c p1 (fun k _ _ => z_up_n _ _ (by omega))) (by rw [z_up_j _ _ (by omega)]; exact p2) (z_up_s _ _ _ _) (fun r hr b hb => by rw [z_up_n _ _ (by omega)]; exact p3 r hr b hb)
  obtain ⟨N1, n1, n2, n3⟩ := k189 (d := d + 18) (N := N)
  obtain ⟨N2, t', o1, o2, o3, o4⟩ := k193O (d := d + 14) (e := e) (q := q) hO.1 h0 (hO.1.2.2.2.1 h0) (by omega) hq k (mI_0 (sp := 1) hT n1 n2)
  rw [← bst_mf w0] at o1 o2 o4
  obtain ⟨N3, q1, q2⟩ := k185e (d := d + 18) o1.1 hW o3
  have sN3 : sM N2 N3 := ⟨fun k _ hk => q1 k (by omega), fun j _ => by rw [q1 1 (by omega)]⟩
  have hM3 : IsM N3 0 T := IsM_c o1.1.1 (fun j _ _ => by rw [q1 1 (by omega)])
  have hS2 := (sC.tr p4 (sC.rf.up (k := 91) (j := 7) (x := nI 1) (by omega))).tr m3
  have hb5 : (bst 1 q T e).1 ≤ 5 := by
    rcases m4 with w | w
    · omega
    · exact w.2
  have ea := m2.1
  have eM := bv_M hb5
  by_cases hb : (bst 1 q T e).1 = 5
  · refine Res_scr hO hC hM (-1000000) hS2 (o1.2.1.tr sN3) (fun Q => ?_) (fun Q => ?_)
    · rw [c111]
      simp (disch := omega) only [s111_0, s111_1, s111_4, s111_7, s111_10, s111_12, s111_13, s111_14, s111_17, s111_20, s111_21, s111_24, s111_27, s111_28, s111_31, s111_34, s111_36, s111_37, s111_38, s111_41, s111_42, s111_45, s111_46, s111_49, s111_50, s111_53, s111_54, s111_57, s111_58, s111_61, s111_64, s111_67, s111_69, s111_70, s111_71, s111_74, s111_75, s111_78, s111_81, s111_82, s111_85, s111_86, s111_89, s111_90, s111_93, z_lt_t, z_lt_f, z_le_t, z_le_f, z_lt0, z_ge0, z_cl, z_in, z_add, z_eq_f, z_ne0, z_00, z_10, z_01, z_11, z_neg1, z_nI_NONE, z_div, z_rem, z_rem2, sw_pu_s, sw_pu_n, true_and, and_true, true_or, or_true, if_true, if_false, not_true_eq_false, not_false_eq_true, h62, h0, k126, k127, k128, z_TI, p5, c87, s87_0, s87_1, s87_2, s87_5, s87_6, s87_7, s87_10, m5, c79, s79_0, s79_1, s79_4, s79_6, s79_9, s79_10, s79_13, s79_14, ea, eM, z_ltI, z_gtI, z_leI, z_geI, z_lt0I, z_ge0I, z_gt0I, z_le0I, z_ibI, Int32.toInt_zero, ↓if_pos, ↓if_neg]
    · rw [c193]
      simp (disch := omega) only [s193_0, s193_1, s193_4, s193_7, s193_9, s193_10, s193_11, s193_12, s193_13, s193_16, s193_19, s193_22, s193_23, s193_24, s193_25, s193_28, s193_31, s193_34, s193_35, s193_36, s193_39, s193_42, s193_45, s193_48, s193_50, s193_51, s193_52, s193_54, s193_55, s193_57, s193_58, z_lt_t, z_lt_f, z_le_t, z_le_f, z_lt0, z_ge0, z_cl, z_in, z_add, z_eq_f, z_ne0, z_00, z_10, z_01, z_11, z_neg1, z_nI_NONE, z_div, z_rem, z_rem2, sw_pu_s, sw_pu_n, true_and, and_true, true_or, or_true, if_true, if_false, not_true_eq_false, not_false_eq_true, hi, k129, z_lT, z_xT, z_m1L, z_TI, n3, ↓if_pos, ↓if_neg]
      refine (o4 Q).trans ?_
      simp (disch := omega) only [s193_101, s193_102, s193_105, s193_107, z_lt_t, z_lt_f, z_le_t, z_le_f, z_lt0, z_ge0, z_cl, z_in, z_add, z_eq_f, z_ne0, z_00, z_10, z_01, z_11, z_neg1, z_nI_NONE, z_div, z_rem, z_rem2, sw_pu_s, sw_pu_n, true_and, and_true, true_or, or_true, if_true, if_false, not_true_eq_false, not_false_eq_true, q2]
      refine (s193_61 ..).trans ?_
      simp (disch := omega) only [s193_63, s193_110, s193_112, s193_113, s193_116, s193_118, s193_121, s193_122, s193_125, s193_127, s193_130, s193_131, s193_132, s193_135, z_lt_t, z_lt_f, z_le_t, z_le_f, z_lt0, z_ge0, z_cl, z_in, z_add, z_eq_f, z_ne0, z_00, z_10, z_01, z_11, z_neg1, z_nI_NONE, z_div, z_rem, z_rem2, sw_pu_s, sw_pu_n, true_and, and_true, true_or, or_true, if_true, if_false, not_true_eq_false, not_false_eq_true, hb, ↓if_pos, ↓if_neg]
  have hb' : (bst 1 q T e).1 ≠ nn 1 := hb
  have en : -(M2 91 8) = nI (bst 1 q T e).1 := by
    rw [ea]
    unfold bvC
    rw [if_neg (by decide), if_neg hb, Int32.neg_neg]
  by_cases c : k.toInt < 0
  · refine Res_scr hO hC hM (nI (bst 1 q T e).1) hS2 (o1.2.1.tr sN3) (fun Q => ?_) (fun Q => ?_)
    · rw [ea] at en
      rw [c111]
      simp (disch := omega) only [s111_0, s111_1, s111_4, s111_7, s111_10, s111_12, s111_13, s111_14, s111_17, s111_20, s111_21, s111_24, s111_27, s111_28, s111_31, s111_34, s111_36, s111_37, s111_38, s111_41, s111_42, s111_45, s111_46, s111_49, s111_50, s111_53, s111_54, s111_57, s111_58, s111_61, s111_64, s111_67, s111_69, s111_70, s111_71, s111_74, s111_75, s111_78, s111_81, s111_82, s111_85, s111_86, s111_89, s111_90, s111_93, z_lt_t, z_lt_f, z_le_t, z_le_f, z_lt0, z_ge0, z_cl, z_in, z_add, z_eq_f, z_ne0, z_00, z_10, z_01, z_11, z_neg1, z_nI_NONE, z_div, z_rem, z_rem2, sw_pu_s, sw_pu_n, true_and, and_true, true_or, or_true, if_true, if_false, not_true_eq_false, not_false_eq_true, h62, h0, k126, k127, k128, z_TI, p5, c87, s87_0, s87_1, s87_2, s87_5, s87_6, s87_7, s87_10, m5, c79, s79_0, s79_1, s79_4, s79_6, s79_9, s79_10, s79_13, s79_14, ea, eM, en, z_ltI, z_gtI, z_leI, z_geI, z_lt0I, z_ge0I, z_gt0I, z_le0I, z_ibI, Int32.toInt_zero, ↓if_pos, ↓if_neg]
    · rw [c193]
      simp (disch := omega) only [s193_0, s193_1, s193_4, s193_7, s193_9, s193_10, s193_11, s193_12, s193_13, s193_16, s193_19, s193_22, s193_23, s193_24, s193_25, s193_28, s193_31, s193_34, s193_35, s193_36, s193_39, s193_42, s193_45, s193_48, s193_50, s193_51, s193_52, s193_54, s193_55, s193_57, s193_58, z_lt_t, z_lt_f, z_le_t, z_le_f, z_lt0, z_ge0, z_cl, z_in, z_add, z_eq_f, z_ne0, z_00, z_10, z_01, z_11, z_neg1, z_nI_NONE, z_div, z_rem, z_rem2, sw_pu_s, sw_pu_n, true_and, and_true, true_or, or_true, if_true, if_false, not_true_eq_false, not_false_eq_true, hi, k129, z_lT, z_xT, z_m1L, z_TI, n3, ↓if_pos, ↓if_neg]
      refine (o4 Q).trans ?_
      simp (disch := omega) only [s193_101, s193_102, s193_105, s193_107, z_lt_t, z_lt_f, z_le_t, z_le_f, z_lt0, z_ge0, z_cl, z_in, z_add, z_eq_f, z_ne0, z_00, z_10, z_01, z_11, z_neg1, z_nI_NONE, z_div, z_rem, z_rem2, sw_pu_s, sw_pu_n, true_and, and_true, true_or, or_true, if_true, if_false, not_true_eq_false, not_false_eq_true, q2]
      refine (s193_61 ..).trans ?_
      simp (disch := omega) only [s193_63, s193_110, s193_112, s193_113, s193_116, s193_118, s193_121, s193_122, s193_125, s193_127, s193_130, s193_131, s193_132, s193_135, z_lt_t, z_lt_f, z_le_t, z_le_f, z_lt0, z_ge0, z_cl, z_in, z_add, z_eq_f, z_ne0, z_00, z_10, z_01, z_11, z_neg1, z_nI_NONE, z_div, z_rem, z_rem2, sw_pu_s, sw_pu_n, true_and, and_true, true_or, or_true, if_true, if_false, not_true_eq_false, not_false_eq_true, z_ltI, z_gtI, z_leI, z_geI, z_lt0I, z_ge0I, z_gt0I, z_le0I, z_ibI, Int32.toInt_zero, ↓if_pos, ↓if_neg]
  · obtain ⟨j, hj, rfl⟩ := sw_ib_of (x := k) (n := 4) (by rw [z_ibI]; omega) (by omega)
    have h78 := fun d Q => k78 (d := d) (Q := Q) (s := bst 1 q T e) m1.1 hW m1.2.1 hj (m2.2 hb')
    have h191 := fun d Q => k191 (d := d) (Q := Q) (N := N3) (s := bst 1 q T e) hM3 hW hj (fun r hr => by rw [q1 10 (by omega)]; exact o1.2.2 hb' r hr) (o2.2 hb')
    refine Res_scr hO hC hM (if j < T 1 then bn ((bst 1 q T e).2 j) else -1000000) hS2 (o1.2.1.tr sN3) (fun Q => ?_) (fun Q => ?_)
    · rw [c111]
      simp (disch := omega) only [s111_0, s111_1, s111_4, s111_7, s111_10, s111_12, s111_13, s111_14, s111_17, s111_20, s111_21, s111_24, s111_27, s111_28, s111_31, s111_34, s111_36, s111_37, s111_38, s111_41, s111_42, s111_45, s111_46, s111_49, s111_50, s111_53, s111_54, s111_57, s111_58, s111_61, s111_64, s111_67, s111_69, s111_70, s111_71, s111_74, s111_75, s111_78, s111_81, s111_82, s111_85, s111_86, s111_89, s111_90, s111_93, z_lt_t, z_lt_f, z_le_t, z_le_f, z_lt0, z_ge0, z_cl, z_in, z_add, z_eq_f, z_ne0, z_00, z_10, z_01, z_11, z_neg1, z_nI_NONE, z_div, z_rem, z_rem2, sw_pu_s, sw_pu_n, true_and, and_true, true_or, or_true, if_true, if_false, not_true_eq_false, not_false_eq_true, h62, h0, k126, k127, k128, z_TI, p5, c87, s87_0, s87_1, s87_2, s87_5, s87_6, s87_7, s87_10, m5, c79, s79_0, s79_1, s79_4, s79_6, s79_9, s79_10, s79_13, s79_14, ea, eM, h78, z_ltI, z_gtI, z_leI, z_geI, z_lt0I, z_ge0I, z_gt0I, z_le0I, z_ibI, Int32.toInt_zero, ↓if_pos, ↓if_neg]
    · rw [c193]
      simp (disch := omega) only [s193_0, s193_1, s193_4, s193_7, s193_9, s193_10, s193_11, s193_12, s193_13, s193_16, s193_19, s193_22, s193_23, s193_24, s193_25, s193_28, s193_31, s193_34, s193_35, s193_36, s193_39, s193_42, s193_45, s193_48, s193_50, s193_51, s193_52, s193_54, s193_55, s193_57, s193_58, z_lt_t, z_lt_f, z_le_t, z_le_f, z_lt0, z_ge0, z_cl, z_in, z_add, z_eq_f, z_ne0, z_00, z_10, z_01, z_11, z_neg1, z_nI_NONE, z_div, z_rem, z_rem2, sw_pu_s, sw_pu_n, true_and, and_true, true_or, or_true, if_true, if_false, not_true_eq_false, not_false_eq_true, hi, k129, z_lT, z_xT, z_m1L, z_TI, n3, ↓if_pos, ↓if_neg]
      refine (o4 Q).trans ?_
      simp (disch := omega) only [s193_101, s193_102, s193_105, s193_107, z_lt_t, z_lt_f, z_le_t, z_le_f, z_lt0, z_ge0, z_cl, z_in, z_add, z_eq_f, z_ne0, z_00, z_10, z_01, z_11, z_neg1, z_nI_NONE, z_div, z_rem, z_rem2, sw_pu_s, sw_pu_n, true_and, and_true, true_or, or_true, if_true, if_false, not_true_eq_false, not_false_eq_true, q2]
      refine (s193_61 ..).trans ?_
      simp (disch := omega) only [s193_63, s193_110, s193_112, s193_113, s193_116, s193_118, s193_121, s193_122, s193_125, s193_127, s193_130, s193_131, s193_132, s193_135, z_lt_t, z_lt_f, z_le_t, z_le_f, z_lt0, z_ge0, z_cl, z_in, z_add, z_eq_f, z_ne0, z_00, z_10, z_01, z_11, z_neg1, z_nI_NONE, z_div, z_rem, z_rem2, sw_pu_s, sw_pu_n, true_and, and_true, true_or, or_true, if_true, if_false, not_true_eq_false, not_false_eq_true, h191, z_ltI, z_gtI, z_leI, z_geI, z_lt0I, z_ge0I, z_gt0I, z_le0I, z_ibI, Int32.toInt_zero, ↓if_pos, ↓if_neg]
end MOR
