section MOQ
variable {T : Tw} {I : Nat → Tw} {π : Ps} {ρ : Rw} {τ : Tp} {ft sv : Int32} {θ : Tc} {M N : sw_Mem} {d e q sp : Nat} {s : St} {Q : Option Value → sw_Mem → Prop}
theorem k191 (hM : IsM N 0 T) (hW : WF T) {k : Nat} (hk : k < 4) (h10 : ∀ r, r < T 1 → N 10 r = nI (s.2 r)) (hs : ∀ r, r < T 1 → s.2 r = 4 ∨ s.2 r < T 0) : sw_Cal (d + 2) 191 [.ref 0, .int (nI k)] N Q = Q (some (.int (if k < T 1 then bn (s.2 k) else -1000000))) N := by
  have w0 := hW.1
  have w1 := hW.2.1
  have g1 := hM.z 1 (by omega)
  rw [c191]
  by_cases c : k < T 1
  · have f := h10 k c
    have := hs k c
    rw [if_pos c]
    simp (disch := omega) only [s191_0, s191_1, s191_2, s191_5, s191_6, s191_7, s191_10, s191_11, s191_12, s191_15, s191_16, s191_17, s191_20, s191_23, s191_25, z_lt_t, z_lt_f, z_le_t, z_le_f, z_lt0, z_ge0, z_cl, z_in, z_add, z_eq_f, z_ne0, z_00, z_10, z_01, z_11, z_neg1, z_nI_NONE, z_div, z_rem, z_rem2, sw_pu_s, sw_pu_n, true_and, and_true, true_or, or_true, if_true, if_false, not_true_eq_false, not_false_eq_true, g1, f, k173]
  · rw [if_neg c]
    simp (disch := omega) only [s191_0, s191_1, s191_2, s191_5, s191_6, s191_7, s191_10, s191_11, s191_12, s191_15, s191_16, s191_17, s191_20, s191_23, s191_25, z_lt_t, z_lt_f, z_le_t, z_le_f, z_lt0, z_ge0, z_cl, z_in, z_add, z_eq_f, z_ne0, z_00, z_10, z_01, z_11, z_neg1, z_nI_NONE, z_div, z_rem, z_rem2, sw_pu_s, sw_pu_n, true_and, and_true, true_or, or_true, if_true, if_false, not_true_eq_false, not_false_eq_true, g1]
theorem k78 (hV : IsV M 34 T) (hW : WF T) (h5 : M 91 5 = nI 34) {k : Nat} (hk : k < 4) (h6 : ∀ r, r < T 1 → M 106 r = bn (s.2 r)) : sw_Cal (d + 2) 78 [.ref 91, .int (nI k)] M Q = Q (some (.int (if k < T 1 then bn (s.2 k) else -1000000))) M := by
  have w1 := hW.2.1
  have h63 := fun d Q => k63 (d := d) (Q := Q) hV hW (nI k)
  rw [c78]
  by_cases c : k < T 1
  · have f := h6 k c
    rw [if_pos c]
    simp (disch := omega) only [s78_0, s78_1, s78_4, s78_5, s78_8, s78_11, s78_12, s78_15, s78_16, s78_17, s78_20, s78_22, z_lt_t, z_lt_f, z_le_t, z_le_f, z_lt0, z_ge0, z_cl, z_in, z_add, z_eq_f, z_ne0, z_00, z_10, z_01, z_11, z_neg1, z_nI_NONE, z_div, z_rem, z_rem2, sw_pu_s, sw_pu_n, true_and, and_true, true_or, or_true, if_true, if_false, not_true_eq_false, not_false_eq_true, h5, kd34, h63, z_ibt, f]
  · rw [if_neg c]
    simp (disch := omega) only [s78_0, s78_1, s78_4, s78_5, s78_8, s78_11, s78_12, s78_15, s78_16, s78_17, s78_20, s78_22, z_lt_t, z_lt_f, z_le_t, z_le_f, z_lt0, z_ge0, z_cl, z_in, z_add, z_eq_f, z_ne0, z_00, z_10, z_01, z_11, z_neg1, z_nI_NONE, z_div, z_rem, z_rem2, sw_pu_s, sw_pu_n, true_and, and_true, true_or, or_true, if_true, if_false, not_true_eq_false, not_false_eq_true, h5, kd34, h63, z_ibf]
theorem mI_0 (hT : IsM N 0 T) {N' : sw_Mem} (h9 : ∀ p, p < 4 → N' 9 p = nI 0) (h : ∀ k, k ≠ 9 → N' k = N k) : mI T sp N (fun _ => 0) (s0 sp) N' :=
  ⟨⟨IsM_c hT (fun j _ _ => by rw [h 1 (by omega)]), h9⟩, ⟨fun k _ hk => h k (by omega), fun j _ => by rw [h 1 (by omega)]⟩, fun hn => absurd rfl hn⟩
set_option maxHeartbeats 1000000 in
theorem o_most (x k : Int32) : Opp 110 192 [.int x, .int k] := by
  intro d T I π ρ τ ft sv θ M N hO hC hM
  have hV := hC.1
  have hT := hM.1.1
  have hi := hM.1.2
  have hW := hO.1.1
  have w0 := hW.1
  have w1 := hW.2.1
  have h62 := fun d Q => k62 (d := d) (Q := Q) hV hW
  by_cases h0 : 0 < T 0
  case neg =>
    rw [is1_n h0] at hi
    refine Res_id hO hC hM (-1000002) (fun Q => ?_) (fun Q => ?_)
    · rw [c110]
      simp (disch := omega) only [s110_0, s110_1, s110_4, s110_7, s110_10, s110_12, z_lt_t, z_lt_f, z_le_t, z_le_f, z_lt0, z_ge0, z_cl, z_in, z_add, z_eq_f, z_ne0, z_00, z_10, z_01, z_11, z_neg1, z_nI_NONE, z_div, z_rem, z_rem2, sw_pu_s, sw_pu_n, true_and, and_true, true_or, or_true, if_true, if_false, not_true_eq_false, not_false_eq_true, h62, h0]
    · rw [c192]
      simp (disch := omega) only [s192_0, s192_1, s192_4, s192_7, s192_9, z_lt_t, z_lt_f, z_le_t, z_le_f, z_lt0, z_ge0, z_cl, z_in, z_add, z_eq_f, z_ne0, z_00, z_10, z_01, z_11, z_neg1, z_nI_NONE, z_div, z_rem, z_rem2, sw_pu_s, sw_pu_n, true_and, and_true, true_or, or_true, if_true, if_false, not_true_eq_false, not_false_eq_true, hi]
  rw [is1_p h0] at hi
  by_cases a : (0 ≤ x.toInt ∧ x.toInt ≤ 60) ∧ (-1 ≤ k.toInt ∧ k.toInt ≤ 3)
  case neg =>
    refine Res_id hO hC hM (-1000001) (fun Q => ?_) (fun Q => ?_)
    · rw [c110]
      by_cases a1 : 0 ≤ x.toInt ∧ x.toInt ≤ 60
      · simp (disch := omega) only [s110_0, s110_1, s110_4, s110_7, s110_10, s110_12, s110_13, s110_14, s110_17, s110_20, s110_21, s110_24, s110_27, s110_29, z_lt_t, z_lt_f, z_le_t, z_le_f, z_lt0, z_ge0, z_cl, z_in, z_add, z_eq_f, z_ne0, z_00, z_10, z_01, z_11, z_neg1, z_nI_NONE, z_div, z_rem, z_rem2, sw_pu_s, sw_pu_n, true_and, and_true, true_or, or_true, if_true, if_false, not_true_eq_false, not_false_eq_true, h62, h0, k126, k128, ↓if_pos, ↓if_neg]
      · simp (disch := omega) only [s110_0, s110_1, s110_4, s110_7, s110_10, s110_12, s110_13, s110_14, s110_17, s110_20, s110_21, s110_24, s110_27, s110_29, z_lt_t, z_lt_f, z_le_t, z_le_f, z_lt0, z_ge0, z_cl, z_in, z_add, z_eq_f, z_ne0, z_00, z_10, z_01, z_11, z_neg1, z_nI_NONE, z_div, z_rem, z_rem2, sw_pu_s, sw_pu_n, true_and, and_true, true_or, or_true, if_true, if_false, not_true_eq_false, not_false_eq_true, h62, h0, k126, ↓if_pos, ↓if_neg]
    · rw [c192]
      by_cases a1 : 0 ≤ x.toInt ∧ x.toInt ≤ 60
      · simp (disch := omega) only [s192_0, s192_1, s192_4, s192_7, s192_9, s192_10, s192_11, s192_12, s192_13, s192_16, s192_19, s192_22, s192_23, s192_24, s192_27, s192_30, s192_33, s192_36, s192_38, z_lt_t, z_lt_f, z_le_t, z_le_f, z_lt0, z_ge0, z_cl, z_in, z_add, z_eq_f, z_ne0, z_00, z_10, z_01, z_11, z_neg1, z_nI_NONE, z_div, z_rem, z_rem2, sw_pu_s, sw_pu_n, true_and, and_true, true_or, or_true, if_true, if_false, not_true_eq_false, not_false_eq_true, hi, k129, z_lT, z_xT, z_m1L, ↓if_pos, ↓if_neg]
      · simp (disch := omega) only [s192_0, s192_1, s192_4, s192_7, s192_9, s192_10, s192_11, s192_12, s192_13, s192_16, s192_19, s192_22, s192_23, s192_24, s192_27, s192_30, s192_33, s192_36, s192_38, z_lt_t, z_lt_f, z_le_t, z_le_f, z_lt0, z_ge0, z_cl, z_in, z_add, z_eq_f, z_ne0, z_00, z_10, z_01, z_11, z_neg1, z_nI_NONE, z_div, z_rem, z_rem2, sw_pu_s, sw_pu_n, true_and, and_true, true_or, or_true, if_true, if_false, not_true_eq_false, not_false_eq_true, hi, k129, z_lT, z_xT, ↓if_pos, ↓if_neg]
  obtain ⟨e, he, rfl⟩ := sw_ib_of (x := x) (n := 61) (by rw [z_ibI]; omega) (by omega)
  obtain ⟨M1, p1, p2, p3, p4, p5⟩ := k85 (d := d + 13) (e := e) hV hO.1 (by omega)
  obtain ⟨M2, m1, m2, m3, m4, m5⟩ := k88 (d := d + 7) (e := e) (q := 0) (sp := 0) (M := sw_up M1 91 7 (nI 0)) hO.1 (by omega) (by omega) (Or.inl rfl) (fun _ => rfl) (IsV_c p1 (fun k _ _ => z_up_n _ _ (by omega))) (by rw [z_up_j _ _ (by omega)]; exact p2) (z_up_s _ _ _ _) (fun r hr b hb => by rw [z_up_n _ _ (by omega)]; exact p3 r hr b hb)
  obtain ⟨N1, n1, n2, n3⟩ := k189 (d := d + 18) (N := N)
  obtain ⟨y', N2, t', o1, o2, o3, o4⟩ := k192O (d := d + 14) (e := e) hO.1 h0 (hO.1.2.2.2.1 h0) (by omega) k (mI_0 (sp := 0) hT n1 n2)
  rw [← bst_mf w0] at o1 o2 o4
  have hb := bst_0 (e := e) w0
  obtain ⟨N3, q1, q2⟩ := k185e (d := d + 18) o1.1 hW o3
  have sN3 : sM N2 N3 := ⟨fun k _ hk => q1 k (by omega), fun j _ => by rw [q1 1 (by omega)]⟩
  have hM3 : IsM N3 0 T := IsM_c o1.1.1 (fun j _ _ => by rw [q1 1 (by omega)])
  have hS2 := (sC.tr p4 (sC.rf.up (k := 91) (j := 7) (x := nI 0) (by omega))).tr m3
  have hb5 : (bst 0 0 T e).1 ≤ 40000 := by
    rcases m4 with w | w
    · exact w.2
    · omega
  have ea : M2 91 8 = nI ((bst 0 0 T e).1 - 1) := by
    rw [m2.1]
    unfold bvC
    rw [if_pos rfl, if_neg hb]
  have es : szv (bst 0 0 T e).1 = nI ((bst 0 0 T e).1 - 1) := by unfold szv; rw [if_neg hb]
  rw [es] at o4
  by_cases c : k.toInt < 0
  · refine Res_scr hO hC hM (nI ((bst 0 0 T e).1 - 1)) hS2 (o1.2.1.tr sN3) (fun Q => ?_) (fun Q => ?_)
    · rw [c110]
      simp (disch := omega) only [s110_0, s110_1, s110_4, s110_7, s110_10, s110_12, s110_13, s110_14, s110_17, s110_20, s110_21, s110_24, s110_27, s110_29, s110_30, s110_31, s110_34, s110_35, s110_38, s110_39, s110_42, s110_43, s110_46, s110_49, s110_50, s110_53, s110_54, s110_57, s110_60, s110_63, s110_64, s110_67, s110_68, s110_71, z_lt_t, z_lt_f, z_le_t, z_le_f, z_lt0, z_ge0, z_cl, z_in, z_add, z_eq_f, z_ne0, z_00, z_10, z_01, z_11, z_neg1, z_nI_NONE, z_div, z_rem, z_rem2, sw_pu_s, sw_pu_n, true_and, and_true, true_or, or_true, if_true, if_false, not_true_eq_false, not_false_eq_true, h62, h0, k126, k128, z_TI, p5, c86, s86_0, s86_1, s86_2, s86_5, s86_6, s86_7, s86_10, m5, ea, z_ltI, z_gtI, z_leI, z_geI, z_lt0I, z_ge0I, z_gt0I, z_le0I, z_ibI, Int32.toInt_zero, ↓if_pos, ↓if_neg]
    · rw [c192]
      simp (disch := omega) only [s192_0, s192_1, s192_4, s192_7, s192_9, s192_10, s192_11, s192_12, s192_13, s192_16, s192_19, s192_22, s192_23, s192_24, s192_27, s192_30, s192_33, s192_36, s192_38, s192_39, s192_40, s192_41, s192_42, s192_44, s192_45, z_lt_t, z_lt_f, z_le_t, z_le_f, z_lt0, z_ge0, z_cl, z_in, z_add, z_eq_f, z_ne0, z_00, z_10, z_01, z_11, z_neg1, z_nI_NONE, z_div, z_rem, z_rem2, sw_pu_s, sw_pu_n, true_and, and_true, true_or, or_true, if_true, if_false, not_true_eq_false, not_false_eq_true, hi, k129, z_lT, z_xT, z_m1L, z_TI, n3, ↓if_pos, ↓if_neg]
      refine (o4 Q).trans ?_
      simp (disch := omega) only [s192_84, s192_85, s192_88, s192_90, z_lt_t, z_lt_f, z_le_t, z_le_f, z_lt0, z_ge0, z_cl, z_in, z_add, z_eq_f, z_ne0, z_00, z_10, z_01, z_11, z_neg1, z_nI_NONE, z_div, z_rem, z_rem2, sw_pu_s, sw_pu_n, true_and, and_true, true_or, or_true, if_true, if_false, not_true_eq_false, not_false_eq_true, q2]
      refine (s192_48 ..).trans ?_
      simp (disch := omega) only [s192_50, s192_93, s192_94, s192_97, s192_98, s192_101, s192_102, s192_103, s192_106, z_lt_t, z_lt_f, z_le_t, z_le_f, z_lt0, z_ge0, z_cl, z_in, z_add, z_eq_f, z_ne0, z_00, z_10, z_01, z_11, z_neg1, z_nI_NONE, z_div, z_rem, z_rem2, sw_pu_s, sw_pu_n, true_and, and_true, true_or, or_true, if_true, if_false, not_true_eq_false, not_false_eq_true, z_ltI, z_gtI, z_leI, z_geI, z_lt0I, z_ge0I, z_gt0I, z_le0I, z_ibI, Int32.toInt_zero, ↓if_pos, ↓if_neg]
  · obtain ⟨j, hj, rfl⟩ := sw_ib_of (x := k) (n := 4) (by rw [z_ibI]; omega) (by omega)
    have h78 := fun d Q => k78 (d := d) (Q := Q) (s := bst 0 0 T e) m1.1 hW m1.2.1 hj (m2.2 hb)
    have h191 := fun d Q => k191 (d := d) (Q := Q) (N := N3) (s := bst 0 0 T e) hM3 hW hj (fun r hr => by rw [q1 10 (by omega)]; exact o1.2.2 hb r hr) (o2.2 hb)
    refine Res_scr hO hC hM (if j < T 1 then bn ((bst 0 0 T e).2 j) else -1000000) hS2 (o1.2.1.tr sN3) (fun Q => ?_) (fun Q => ?_)
    · rw [c110]
      simp (disch := omega) only [s110_0, s110_1, s110_4, s110_7, s110_10, s110_12, s110_13, s110_14, s110_17, s110_20, s110_21, s110_24, s110_27, s110_29, s110_30, s110_31, s110_34, s110_35, s110_38, s110_39, s110_42, s110_43, s110_46, s110_49, s110_50, s110_53, s110_54, s110_57, s110_60, s110_63, s110_64, s110_67, s110_68, s110_71, z_lt_t, z_lt_f, z_le_t, z_le_f, z_lt0, z_ge0, z_cl, z_in, z_add, z_eq_f, z_ne0, z_00, z_10, z_01, z_11, z_neg1, z_nI_NONE, z_div, z_rem, z_rem2, sw_pu_s, sw_pu_n, true_and, and_true, true_or, or_true, if_true, if_false, not_true_eq_false, not_false_eq_true, h62, h0, k126, k128, z_TI, p5, c86, s86_0, s86_1, s86_2, s86_5, s86_6, s86_7, s86_10, m5, h78, z_ltI, z_gtI, z_leI, z_geI, z_lt0I, z_ge0I, z_gt0I, z_le0I, z_ibI, Int32.toInt_zero, ↓if_pos, ↓if_neg]
    · rw [c192]
      simp (disch := omega) only [s192_0, s192_1, s192_4, s192_7, s192_9, s192_10, s192_11, s192_12, s192_13, s192_16, s192_19, s192_22, s192_23, s192_24, s192_27, s192_30, s192_33, s192_36, s192_38, s192_39, s192_40, s192_41, s192_42, s192_44, s192_45, z_lt_t, z_lt_f, z_le_t, z_le_f, z_lt0, z_ge0, z_cl, z_in, z_add, z_eq_f, z_ne0, z_00, z_10, z_01, z_11, z_neg1, z_nI_NONE, z_div, z_rem, z_rem2, sw_pu_s, sw_pu_n, true_and, and_true, true_or, or_true, if_true, if_false, not_true_eq_false, not_false_eq_true, hi, k129, z_lT, z_xT, z_m1L, z_TI, n3, ↓if_pos, ↓if_neg]
      refine (o4 Q).trans ?_
      simp (disch := omega) only [s192_84, s192_85, s192_88, s192_90, z_lt_t, z_lt_f, z_le_t, z_le_f, z_lt0, z_ge0, z_cl, z_in, z_add, z_eq_f, z_ne0, z_00, z_10, z_01, z_11, z_neg1, z_nI_NONE, z_div, z_rem, z_rem2, sw_pu_s, sw_pu_n, true_and, and_true, true_or, or_true, if_true, if_false, not_true_eq_false, not_false_eq_true, q2]
      refine (s192_48 ..).trans ?_
      simp (disch := omega) only [s192_50, s192_93, s192_94, s192_97, s192_98, s192_101, s192_102, s192_103, s192_106, z_lt_t, z_lt_f, z_le_t, z_le_f, z_lt0, z_ge0, z_cl, z_in, z_add, z_eq_f, z_ne0, z_00, z_10, z_01, z_11, z_neg1, z_nI_NONE, z_div, z_rem, z_rem2, sw_pu_s, sw_pu_n, true_and, and_true, true_or, or_true, if_true, if_false, not_true_eq_false, not_false_eq_true, h191, z_ltI, z_gtI, z_leI, z_geI, z_lt0I, z_ge0I, z_gt0I, z_le0I, z_ibI, Int32.toInt_zero, ↓if_pos, ↓if_neg]
end MOQ
