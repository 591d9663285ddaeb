section OPB
variable {T : Tw} {I : Nat → Tw} {π : Ps} {ρ : Rw} {τ : Tp} {ft sv : Int32} {θ : Tc} {M N : sw_Mem} {c m : Nat} {as : List Value}
/-- outside of the places there are -/
theorem nib {x : Int32} {n : Nat} (h : ¬ (0 ≤ x.toInt ∧ x.toInt < (n : Int))) : ¬ sw_ib x n := by rw [z_ibI]; exact h
theorem ORw_it (ho : ORw ρ) (r : Nat) (g : Nat → Int32) : ORw (ρ.1, ρ.2.1, upR ρ.2.2 r g) := ho
theorem CRw_it (h : CRw ρ M) {r : Nat} (hr : r < 8) (g : Nat → Int32) : CRw (ρ.1, ρ.2.1, upR ρ.2.2 r g) (sw_set M (14 + r) g) := by
  intro q hq
  obtain ⟨g1, g2, g3⟩ := h q hq
  refine ⟨?_, ?_, fun i hi => ?_⟩ <;> dsimp only
  · rw [z_set_n _ _ (by omega), g1]
  · rw [z_set_n _ _ (by omega), g2]
  · by_cases e : q = r
    · subst e
      rw [z_set_s, upR_s]
    · rw [z_set_n _ _ (by omega), upR_n _ _ e, g3 i hi]
theorem MRw_it (h : MRw ρ M) {r : Nat} (hr : r < 8) (f g : Nat → Int32) (h1 : ∀ i, i < 40 → f (40 * r + i) = g i) (h2 : ∀ j, j < 40 * r ∨ 40 * r + 40 ≤ j → f j = M 5 j) : MRw (ρ.1, ρ.2.1, upR ρ.2.2 r g) (sw_set M 5 f) := by
  intro q hq
  obtain ⟨g1, g2, g3⟩ := h q hq
  refine ⟨?_, ?_, fun i hi => ?_⟩ <;> dsimp only
  · rw [z_set_n _ _ (by omega), g1]
  · rw [z_set_n _ _ (by omega), g2]
  · rw [z_set_s]
    by_cases e : q = r
    · subst e
      rw [h1 i hi, upR_s]
    · rw [h2 _ (by omega), upR_n _ _ e, g3 i hi]
theorem up_set (M : sw_Mem) (a j : Nat) (v : Int32) : sw_up M a j v = sw_set M a (fun i => if i = j then v else M a i) := by
  funext k i
  rw [z_up]
  by_cases h : k = a
  · subst h
    rw [z_set_s]
    by_cases e : i = j
    · rw [if_pos ⟨rfl, e⟩, if_pos e]
    · rw [if_neg (fun q => e q.2), if_neg e]
  · rw [if_neg (fun q => h q.1), z_set_n _ _ h]
theorem o_set (x i v : Int32) : Opp 92 138 [.int x, .int i, .int v] := by
  intro d T I π ρ τ ft sv θ M N hO hC hM
  have hcr := hC.2.2.2.1
  have hmr := hM.2.2.2.1
  have ho := hO.2.2.2.1
  by_cases b : 0 ≤ x.toInt ∧ x.toInt < 8
  · obtain ⟨r, hr, rfl⟩ := sw_ib_of (x := x) (n := 8) (by rw [z_ibI]; omega) (by omega)
    obtain ⟨g1, g2, g3⟩ := hmr r hr
    have o2 := ho r hr
    have h44 := fun d Q => k44 (d := d) (Q := Q) hcr ho hr
    by_cases h0 : ρ.2.1 r = 0
    · refine Res_sv hO hC hM (-1000010 - nI 1) (nI 1) (fun Q => ?_) (fun Q => ?_)
      · rw [c92]
        simp (disch := omega) only [s92_0, s92_1, s92_4, s92_7, s92_9, s92_10, s92_11, s92_14, s92_15, s92_18, s92_21, s92_22, s92_23, s92_26, s92_27, s92_28, s92_31, s92_32, s92_33, s92_34, s92_37, s92_40, s92_41, s92_42, s92_45, s92_46, s92_47, s92_48, s92_51, s92_52, s92_53, s92_54, s92_57, s92_60, z_lt_t, z_lt_f, z_le_t, z_le_f, z_lt0, z_ge0, z_cl, z_in, z_add, z_eq_f, z_ne0, z_00, z_10, z_01, z_11, z_neg1, z_nI_NONE, z_div, z_rem, z_rem2, sw_pu_s, sw_pu_n, true_and, and_true, true_or, or_true, if_true, if_false, not_true_eq_false, not_false_eq_true, z_ltI, z_gtI, z_leI, z_geI, z_lt0I, z_ge0I, z_gt0I, z_le0I, z_ibI, Int32.toInt_zero, k43, h44, k124, z_TI, ↓if_pos, ↓if_neg]
      · rw [c138]
        simp (disch := omega) only [s138_0, s138_1, s138_4, s138_7, s138_9, s138_10, s138_11, s138_14, s138_15, s138_16, s138_19, s138_20, s138_21, s138_24, s138_25, s138_26, s138_27, s138_28, s138_29, s138_32, s138_33, s138_34, s138_35, s138_36, s138_37, s138_40, s138_43, s138_44, s138_45, s138_48, s138_49, s138_50, s138_53, s138_55, s138_56, s138_57, s138_58, s138_59, s138_60, s138_61, s138_64, s138_65, s138_66, s138_69, s138_70, s138_71, s138_72, s138_75, s138_77, s138_78, s138_79, s138_80, s138_81, s138_82, s138_85, z_lt_t, z_lt_f, z_le_t, z_le_f, z_lt0, z_ge0, z_cl, z_in, z_add, z_eq_f, z_ne0, z_00, z_10, z_01, z_11, z_neg1, z_nI_NONE, z_div, z_rem, z_rem2, sw_pu_s, sw_pu_n, true_and, and_true, true_or, or_true, if_true, if_false, not_true_eq_false, not_false_eq_true, g2, z_szv0, z_szvg, k135, k133, z_ibI, z_TI, ↓if_pos, ↓if_neg]
    · obtain ⟨m, hm⟩ : ∃ m, ρ.2.1 r = m + 1 := ⟨ρ.2.1 r - 1, by omega⟩
      have h45 := fun d Q n => k45 (d := d) (Q := Q) hcr ho hr hm i n
      rw [hm, szv_s] at g2
      have em := z_R1 (a := m) (by omega)
      by_cases h1 : 0 ≤ i.toInt ∧ i.toInt < (m : Int)
      · obtain ⟨i', hi, rfl⟩ := sw_ib_of (x := i) (n := m) (by rw [z_ibI]; omega) (by omega)
        have h49 := fun d Q => k49 (d := d) (Q := Q) hcr ho hr (show i' < 40 by omega) v
        have h53 := fun d Q M => k137 (d := d) (M := M) (Q := Q) (ho r hr).1 v
        refine ⟨T, I, π, (ρ.1, ρ.2.1, upR ρ.2.2 r (fun j => if j = i' then narr (ρ.1 r) v else M (14 + r) j)), τ, ft, nI 0, θ, narr (ρ.1 r) v, _, _, ⟨hO.1, hO.2.1, hO.2.2.1, hO.2.2.2.1, hO.2.2.2.2⟩, ⟨RC_sv (RC_rw hC (CRw_it hcr hr _) (fun k hk => z_set_n _ _ (by omega))) (nI 0), ?_, fun Q => ?_⟩, RM_sv hO.2.2.1.1 (RM_rw hM (MRw_it hmr hr (fun j => if j = 40 * r + i' then narr (ρ.1 r) v else N 5 j) _ (fun j hj => ?_) (fun j hj => ?_)) (fun k hk => z_set_n _ _ (by omega))) (nI 0), ?_, fun Q => ?_⟩
        · exact ((noM.rf.set (by omega)).up (by omega))
        · rw [c92]
          simp (disch := omega) only [s92_0, s92_1, s92_4, s92_7, s92_9, s92_10, s92_11, s92_14, s92_15, s92_18, s92_21, s92_22, s92_23, s92_26, s92_27, s92_28, s92_31, s92_32, s92_33, s92_34, s92_37, s92_40, s92_41, s92_42, s92_45, s92_46, s92_47, s92_48, s92_51, s92_52, s92_53, s92_54, s92_57, s92_60, z_lt_t, z_lt_f, z_le_t, z_le_f, z_lt0, z_ge0, z_cl, z_in, z_add, z_eq_f, z_ne0, z_00, z_10, z_01, z_11, z_neg1, z_nI_NONE, z_div, z_rem, z_rem2, sw_pu_s, sw_pu_n, true_and, and_true, true_or, or_true, if_true, if_false, not_true_eq_false, not_false_eq_true, k43, h44, h45, h49, k125, hd, z_TI, z_ibI, ↓if_pos, ↓if_neg, up_set M]
        · by_cases e : j = i'
          · rw [if_pos (by omega), if_pos e]
          · rw [if_neg (by omega), if_neg e, g3 j hj, (hcr r hr).2.2 j hj]
        · rw [if_neg (by omega)]
        · exact ((noC.rf.set (by omega)).up (by omega))
        · rw [c138]
          simp (disch := omega) only [s138_0, s138_1, s138_4, s138_7, s138_9, s138_10, s138_11, s138_14, s138_15, s138_16, s138_19, s138_20, s138_21, s138_24, s138_25, s138_26, s138_27, s138_28, s138_29, s138_32, s138_33, s138_34, s138_35, s138_36, s138_37, s138_40, s138_43, s138_44, s138_45, s138_48, s138_49, s138_50, s138_53, s138_55, s138_56, s138_57, s138_58, s138_59, s138_60, s138_61, s138_64, s138_65, s138_66, s138_69, s138_70, s138_71, s138_72, s138_75, s138_77, s138_78, s138_79, s138_80, s138_81, s138_82, s138_85, z_lt_t, z_lt_f, z_le_t, z_le_f, z_lt0, z_ge0, z_cl, z_in, z_add, z_eq_f, z_ne0, z_00, z_10, z_01, z_11, z_neg1, z_nI_NONE, z_div, z_rem, z_rem2, sw_pu_s, sw_pu_n, true_and, and_true, true_or, or_true, if_true, if_false, not_true_eq_false, not_false_eq_true, g1, g2, k135, k129, k134, h53, z_ibI, z_mul, z_lT, z_xT, em, z_TI, ↓if_pos, ↓if_neg, up_set N, z_set_s]
      · refine Res_sv hO hC hM (-1000010 - nI 2) (nI 2) (fun Q => ?_) (fun Q => ?_)
        · rw [c92]
          simp (disch := omega) only [s92_0, s92_1, s92_4, s92_7, s92_9, s92_10, s92_11, s92_14, s92_15, s92_18, s92_21, s92_22, s92_23, s92_26, s92_27, s92_28, s92_31, s92_32, s92_33, s92_34, s92_37, s92_40, s92_41, s92_42, s92_45, s92_46, s92_47, s92_48, s92_51, s92_52, s92_53, s92_54, s92_57, s92_60, z_lt_t, z_lt_f, z_le_t, z_le_f, z_lt0, z_ge0, z_cl, z_in, z_add, z_eq_f, z_ne0, z_00, z_10, z_01, z_11, z_neg1, z_nI_NONE, z_div, z_rem, z_rem2, sw_pu_s, sw_pu_n, true_and, and_true, true_or, or_true, if_true, if_false, not_true_eq_false, not_false_eq_true, k43, h44, h45, k124, hd, z_TI, z_ibI, ↓if_pos, ↓if_neg]
        · rw [c138]
          simp (disch := omega) only [s138_0, s138_1, s138_4, s138_7, s138_9, s138_10, s138_11, s138_14, s138_15, s138_16, s138_19, s138_20, s138_21, s138_24, s138_25, s138_26, s138_27, s138_28, s138_29, s138_32, s138_33, s138_34, s138_35, s138_36, s138_37, s138_40, s138_43, s138_44, s138_45, s138_48, s138_49, s138_50, s138_53, s138_55, s138_56, s138_57, s138_58, s138_59, s138_60, s138_61, s138_64, s138_65, s138_66, s138_69, s138_70, s138_71, s138_72, s138_75, s138_77, s138_78, s138_79, s138_80, s138_81, s138_82, s138_85, z_lt_t, z_lt_f, z_le_t, z_le_f, z_lt0, z_ge0, z_cl, z_in, z_add, z_eq_f, z_ne0, z_00, z_10, z_01, z_11, z_neg1, z_nI_NONE, z_div, z_rem, z_rem2, sw_pu_s, sw_pu_n, true_and, and_true, true_or, or_true, if_true, if_false, not_true_eq_false, not_false_eq_true, g1, g2, k135, k129, k133, z_ibI, z_lT, z_xT, em, z_TI, ↓if_pos, ↓if_neg]
  · refine Res_id hO hC hM (-1000001) (fun Q => ?_) (fun Q => ?_)
    · rw [c92]
      simp (disch := omega) only [s92_0, s92_1, s92_4, s92_7, s92_9, s92_10, s92_11, s92_14, s92_15, s92_18, s92_21, s92_22, s92_23, s92_26, s92_27, s92_28, s92_31, s92_32, s92_33, s92_34, s92_37, s92_40, s92_41, s92_42, s92_45, s92_46, s92_47, s92_48, s92_51, s92_52, s92_53, s92_54, s92_57, s92_60, z_lt_t, z_lt_f, z_le_t, z_le_f, z_lt0, z_ge0, z_cl, z_in, z_add, z_eq_f, z_ne0, z_00, z_10, z_01, z_11, z_neg1, z_nI_NONE, z_div, z_rem, z_rem2, sw_pu_s, sw_pu_n, true_and, and_true, true_or, or_true, if_true, if_false, not_true_eq_false, not_false_eq_true, z_ltI, z_gtI, z_leI, z_geI, z_lt0I, z_ge0I, z_gt0I, z_le0I, z_ibI, Int32.toInt_zero, k43, ↓if_pos, ↓if_neg]
    · rw [c138]
      simp (disch := omega) only [s138_0, s138_1, s138_4, s138_7, s138_9, s138_10, s138_11, s138_14, s138_15, s138_16, s138_19, s138_20, s138_21, s138_24, s138_25, s138_26, s138_27, s138_28, s138_29, s138_32, s138_33, s138_34, s138_35, s138_36, s138_37, s138_40, s138_43, s138_44, s138_45, s138_48, s138_49, s138_50, s138_53, s138_55, s138_56, s138_57, s138_58, s138_59, s138_60, s138_61, s138_64, s138_65, s138_66, s138_69, s138_70, s138_71, s138_72, s138_75, s138_77, s138_78, s138_79, s138_80, s138_81, s138_82, s138_85, z_lt_t, z_lt_f, z_le_t, z_le_f, z_lt0, z_ge0, z_cl, z_in, z_add, z_eq_f, z_ne0, z_00, z_10, z_01, z_11, z_neg1, z_nI_NONE, z_div, z_rem, z_rem2, sw_pu_s, sw_pu_n, true_and, and_true, true_or, or_true, if_true, if_false, not_true_eq_false, not_false_eq_true, z_ltI, z_gtI, z_leI, z_geI, z_lt0I, z_ge0I, z_gt0I, z_le0I, z_ibI, Int32.toInt_zero, k135, ↓if_pos, ↓if_neg]
theorem o_drop (x : Int32) : Opp 94 141 [.int x] := by
  intro d T I π ρ τ ft sv θ M N hO hC hM
  have hcr := hC.2.2.2.1
  have hmr := hM.2.2.2.1
  have ho := hO.2.2.2.1
  by_cases b : 0 ≤ x.toInt ∧ x.toInt < 8
  · obtain ⟨r, hr, rfl⟩ := sw_ib_of (x := x) (n := 8) (by rw [z_ibI]; omega) (by omega)
    obtain ⟨g1, g2, g3⟩ := hmr r hr
    have o2 := ho r hr
    have h44 := fun d Q => k44 (d := d) (Q := Q) hcr ho hr
    by_cases h0 : ρ.2.1 r = 0
    · refine Res_sv hO hC hM (-1000010 - nI 1) (nI 1) (fun Q => ?_) (fun Q => ?_)
      · rw [c94]
        simp (disch := omega) only [s94_0, s94_1, s94_4, s94_7, s94_9, s94_10, s94_11, s94_14, s94_15, s94_18, s94_21, s94_22, s94_23, s94_26, s94_27, s94_28, s94_29, s94_32, s94_33, s94_36, s94_39, z_lt_t, z_lt_f, z_le_t, z_le_f, z_lt0, z_ge0, z_cl, z_in, z_add, z_eq_f, z_ne0, z_00, z_10, z_01, z_11, z_neg1, z_nI_NONE, z_div, z_rem, z_rem2, sw_pu_s, sw_pu_n, true_and, and_true, true_or, or_true, if_true, if_false, not_true_eq_false, not_false_eq_true, z_ltI, z_gtI, z_leI, z_geI, z_lt0I, z_ge0I, z_gt0I, z_le0I, z_ibI, Int32.toInt_zero, k43, h44, k124, z_TI, ↓if_pos, ↓if_neg]
      · rw [c141]
        simp (disch := omega) only [s141_0, s141_1, s141_4, s141_7, s141_9, s141_10, s141_11, s141_14, s141_15, s141_16, s141_19, s141_20, s141_21, s141_24, s141_25, s141_26, s141_29, s141_30, s141_31, s141_32, s141_33, s141_36, s141_37, s141_38, s141_39, s141_40, s141_41, s141_44, z_lt_t, z_lt_f, z_le_t, z_le_f, z_lt0, z_ge0, z_cl, z_in, z_add, z_eq_f, z_ne0, z_00, z_10, z_01, z_11, z_neg1, z_nI_NONE, z_div, z_rem, z_rem2, sw_pu_s, sw_pu_n, true_and, and_true, true_or, or_true, if_true, if_false, not_true_eq_false, not_false_eq_true, g2, z_szv0, z_szvg, k135, k133, z_ibI, z_TI, ↓if_pos, ↓if_neg]
    · have h51 := fun d Q => k51 (d := d) (Q := Q) hcr hr
      refine ⟨T, I, π, (ρ.1, upT ρ.2.1 r 0, ρ.2.2), τ, ft, nI 0, θ, szv (ρ.2.1 r), _, _, ⟨hO.1, hO.2.1, hO.2.2.1, ?_, hO.2.2.2.2⟩, ⟨RC_sv (RC_rw hC (M' := sw_up M 23 r (-1)) ?_ (fun k hk => z_up_n _ _ (by omega))) (nI 0), ?_, fun Q => ?_⟩, RM_sv hO.2.2.1.1 (RM_rw hM (M' := sw_up N 4 r (-1)) ?_ (fun k hk => z_up_n _ _ (by omega))) (nI 0), ?_, fun Q => ?_⟩
      · intro q hq
        have := ho q hq
        by_cases e : q = r
        · subst e
          simp only [upT_s]
          omega
        · simp only [upT_n _ _ e]
          exact this
      · intro q hq
        obtain ⟨a1, a2, a3⟩ := hcr q hq
        refine ⟨?_, ?_, fun i hi => ?_⟩ <;> dsimp only
        · rw [z_up_n _ _ (by omega), a1]
        · by_cases e : q = r
          · subst e
            rw [z_up_s, upT_s, szv_0]
          · rw [z_up_j _ _ e, upT_n _ _ e, a2]
        · rw [z_up_n _ _ (by omega), a3 i hi]
      · exact ((noM.rf.up (by omega)).up (by omega))
      · rw [c94]
        simp (disch := omega) only [s94_0, s94_1, s94_4, s94_7, s94_9, s94_10, s94_11, s94_14, s94_15, s94_18, s94_21, s94_22, s94_23, s94_26, s94_27, s94_28, s94_29, s94_32, s94_33, s94_36, s94_39, z_lt_t, z_lt_f, z_le_t, z_le_f, z_lt0, z_ge0, z_cl, z_in, z_add, z_eq_f, z_ne0, z_00, z_10, z_01, z_11, z_neg1, z_nI_NONE, z_div, z_rem, z_rem2, sw_pu_s, sw_pu_n, true_and, and_true, true_or, or_true, if_true, if_false, not_true_eq_false, not_false_eq_true, z_ltI, z_gtI, z_leI, z_geI, z_lt0I, z_ge0I, z_gt0I, z_le0I, z_ibI, Int32.toInt_zero, k43, h44, h51, k125, z_TI, ↓if_pos, ↓if_neg]
      · intro q hq
        obtain ⟨a1, a2, a3⟩ := hmr q hq
        refine ⟨?_, ?_, fun i hi => ?_⟩ <;> dsimp only
        · rw [z_up_n _ _ (by omega), a1]
        · by_cases e : q = r
          · subst e
            rw [z_up_s, upT_s, szv_0]
          · rw [z_up_j _ _ e, upT_n _ _ e, a2]
        · rw [z_up_n _ _ (by omega), a3 i hi]
      · exact ((noC.rf.up (by omega)).up (by omega))
      · rw [c141]
        simp (disch := omega) only [s141_0, s141_1, s141_4, s141_7, s141_9, s141_10, s141_11, s141_14, s141_15, s141_16, s141_19, s141_20, s141_21, s141_24, s141_25, s141_26, s141_29, s141_30, s141_31, s141_32, s141_33, s141_36, s141_37, s141_38, s141_39, s141_40, s141_41, s141_44, z_lt_t, z_lt_f, z_le_t, z_le_f, z_lt0, z_ge0, z_cl, z_in, z_add, z_eq_f, z_ne0, z_00, z_10, z_01, z_11, z_neg1, z_nI_NONE, z_div, z_rem, z_rem2, sw_pu_s, sw_pu_n, true_and, and_true, true_or, or_true, if_true, if_false, not_true_eq_false, not_false_eq_true, g2, z_szv0, z_szvg, k135, k134, z_ibI, z_TI, ↓if_pos, ↓if_neg]
  · refine Res_id hO hC hM (-1000001) (fun Q => ?_) (fun Q => ?_)
    · rw [c94]
      simp (disch := omega) only [s94_0, s94_1, s94_4, s94_7, s94_9, s94_10, s94_11, s94_14, s94_15, s94_18, s94_21, s94_22, s94_23, s94_26, s94_27, s94_28, s94_29, s94_32, s94_33, s94_36, s94_39, z_lt_t, z_lt_f, z_le_t, z_le_f, z_lt0, z_ge0, z_cl, z_in, z_add, z_eq_f, z_ne0, z_00, z_10, z_01, z_11, z_neg1, z_nI_NONE, z_div, z_rem, z_rem2, sw_pu_s, sw_pu_n, true_and, and_true, true_or, or_true, if_true, if_false, not_true_eq_false, not_false_eq_true, z_ltI, z_gtI, z_leI, z_geI, z_lt0I, z_ge0I, z_gt0I, z_le0I, z_ibI, Int32.toInt_zero, k43, ↓if_pos, ↓if_neg]
    · rw [c141]
      simp (disch := omega) only [s141_0, s141_1, s141_4, s141_7, s141_9, s141_10, s141_11, s141_14, s141_15, s141_16, s141_19, s141_20, s141_21, s141_24, s141_25, s141_26, s141_29, s141_30, s141_31, s141_32, s141_33, s141_36, s141_37, s141_38, s141_39, s141_40, s141_41, s141_44, z_lt_t, z_lt_f, z_le_t, z_le_f, z_lt0, z_ge0, z_cl, z_in, z_add, z_eq_f, z_ne0, z_00, z_10, z_01, z_11, z_neg1, z_nI_NONE, z_div, z_rem, z_rem2, sw_pu_s, sw_pu_n, true_and, and_true, true_or, or_true, if_true, if_false, not_true_eq_false, not_false_eq_true, z_ltI, z_gtI, z_leI, z_geI, z_lt0I, z_ge0I, z_gt0I, z_le0I, z_ibI, Int32.toInt_zero, k135, ↓if_pos, ↓if_neg]
theorem o_fault : Opp 97 156 [] := by
  intro d T I π ρ τ ft sv θ M N hO hC hM
  have h1 := hC.2.2.2.2.2.1
  have h2 := hM.2.2.2.2.2.1
  refine Res_id hO hC hM ft (fun Q => ?_) (fun Q => ?_)
  · rw [c97]
    simp only [s97_0, s97_1, s97_4, h1]
  · rw [c156]
    simp only [s156_0, s156_1, s156_4, h2]
theorem o_status : Opp 123 221 [] := by
  intro d T I π ρ τ ft sv θ M N hO hC hM
  have h1 := hC.2.2.2.2.2.2.1
  have h2 := hM.2.2.2.2.2.2.1
  refine Res_id hO hC hM sv (fun Q => ?_) (fun Q => ?_)
  · rw [c123]
    simp only [s123_0, s123_1, s123_4, h1]
  · rw [c221]
    simp only [s221_0, s221_1, s221_4, h2]
theorem k54 {d : Nat} {Q : Option Value → sw_Mem → Prop} (h : CTp τ M) (ho : OTp τ) : sw_Cal (d + 1) 54 [.ref 24] M Q = if 100 ≤ τ.2 then Q (some (.int (nI 1))) M else Q (some (.int (nI 0))) M := by
  have h1 := h.1
  have o1 := ho.1
  rw [c54]
  by_cases b : 100 ≤ τ.2
  · simp (disch := omega) only [s54_0, s54_1, s54_4, s54_6, s54_9, s54_10, s54_13, s54_14, z_lt_t, z_lt_f, z_le_t, z_le_f, z_lt0, z_ge0, z_cl, z_in, z_add, z_eq_f, z_ne0, z_00, z_10, z_01, z_11, z_neg1, z_nI_NONE, z_div, z_rem, z_rem2, sw_pu_s, sw_pu_n, true_and, and_true, true_or, or_true, if_true, if_false, not_true_eq_false, not_false_eq_true, h1, ↓if_pos, ↓if_neg]
  · simp (disch := omega) only [s54_0, s54_1, s54_4, s54_6, s54_9, s54_10, s54_13, s54_14, z_lt_t, z_lt_f, z_le_t, z_le_f, z_lt0, z_ge0, z_cl, z_in, z_add, z_eq_f, z_ne0, z_00, z_10, z_01, z_11, z_neg1, z_nI_NONE, z_div, z_rem, z_rem2, sw_pu_s, sw_pu_n, true_and, and_true, true_or, or_true, if_true, if_false, not_true_eq_false, not_false_eq_true, h1, ↓if_pos, ↓if_neg]
theorem RC_tp {τ' : Tp} {M' : sw_Mem} (h : RC T I π ρ τ ft sv θ M) (hc : CTp τ' M') (e : ∀ k, k < 24 ∨ 26 ≤ k → M' k = M k) : RC T I π ρ τ' ft sv θ M' := by
  obtain ⟨h1, h2, h3, h4, h5, h6, h7, h8, h9⟩ := h
  refine ⟨IsV_c h1 (fun k _ _ => e k (by omega)), CIm_c h2 (fun k _ _ => e k (by omega)), CPs_c h3 (fun k _ _ => e k (by omega)), CRw_c h4 (fun k _ _ => e k (by omega)), hc, ?_, ?_, CTc_c h8 (fun k _ _ => e k (by omega)), CKn_c h9 (fun k _ _ => e k (by omega))⟩
  · rw [e 11 (by omega)]; exact h6
  · rw [e 11 (by omega)]; exact h7
theorem RM_tp {τ' : Tp} {M' : sw_Mem} (h : RM T I π ρ τ ft sv θ M) (hc : MTp τ' M') (e : ∀ k, k ≠ 0 → k ≠ 6 → M' k = M k) (e0 : ∀ j, j ≠ 8 → M' 0 j = M 0 j) : RM T I π ρ τ' ft sv θ M' := by
  obtain ⟨⟨h1, h1'⟩, h2, h3, h4, ⟨h5, h5'⟩, h6, h7, ⟨h8, h8'⟩⟩ := h
  have e1 := e 1 (by omega) (by omega)
  refine ⟨⟨IsM_c h1 (fun j _ _ => by rw [e1]), by rw [e0 1 (by omega)]; exact h1'⟩, MIm_c h2 (fun j _ _ => by rw [e1]) (e 2 (by omega) (by omega)), ⟨by rw [e0 2 (by omega)]; exact h3.1, fun i hi => IsM_c (h3.2 i hi) (fun j _ _ => by rw [e1])⟩, MRw_c h4 (fun k _ _ => e k (by omega) (by omega)), hc, by rw [e0 9 (by omega)]; exact h6, by rw [e0 10 (by omega)]; exact h7, ⟨by rw [e0 12 (by omega)]; exact h8, by rw [e 7 (by omega) (by omega)]; exact h8'⟩⟩
theorem o_feed (x : Int32) : Opp 95 142 [.int x] := by
  intro d T I π ρ τ ft sv θ M N hO hC hM
  have hct := hC.2.2.2.2.1
  have hmt := hM.2.2.2.2.1
  have ho := hO.2.2.2.2.1
  have c1 := hct.1
  have m1 := hmt.1
  have o1 := ho.1
  have h54 := fun d Q => k54 (d := d) (Q := Q) hct ho
  by_cases b : 0 ≤ x.toInt ∧ x.toInt < 256
  · obtain ⟨x', hx, rfl⟩ := sw_ib_of (x := x) (n := 256) (by rw [z_ibI]; omega) (by omega)
    by_cases b2 : τ.2 = 100
    · rw [b2] at m1
      refine Res_id hO hC hM (-1000003) (fun Q => ?_) (fun Q => ?_)
      · rw [c95]
        simp (disch := omega) only [s95_0, s95_1, s95_4, s95_5, s95_8, s95_11, s95_13, s95_14, s95_15, s95_18, s95_21, s95_24, s95_27, s95_29, s95_32, s95_33, s95_36, s95_39, s95_40, s95_43, z_lt_t, z_lt_f, z_le_t, z_le_f, z_lt0, z_ge0, z_cl, z_in, z_add, z_eq_f, z_ne0, z_00, z_10, z_01, z_11, z_neg1, z_nI_NONE, z_div, z_rem, z_rem2, sw_pu_s, sw_pu_n, true_and, and_true, true_or, or_true, if_true, if_false, not_true_eq_false, not_false_eq_true, h54, ↓if_pos, ↓if_neg]
      · rw [c142]
        simp (disch := omega) only [s142_0, s142_1, s142_2, s142_3, s142_6, s142_9, s142_12, s142_14, s142_15, s142_16, s142_19, s142_21, s142_24, s142_26, s142_27, s142_28, s142_31, s142_32, s142_35, s142_36, s142_37, s142_38, s142_39, s142_42, s142_43, s142_44, s142_47, s142_48, s142_51, z_lt_t, z_lt_f, z_le_t, z_le_f, z_lt0, z_ge0, z_cl, z_in, z_add, z_eq_f, z_ne0, z_00, z_10, z_01, z_11, z_neg1, z_nI_NONE, z_div, z_rem, z_rem2, sw_pu_s, sw_pu_n, true_and, and_true, true_or, or_true, if_true, if_false, not_true_eq_false, not_false_eq_true, m1, k129, z_lT, z_xT, z_TI, ↓if_pos, ↓if_neg]
    · refine ⟨T, I, π, ρ, (upT τ.1 τ.2 x', τ.2 + 1), ft, sv, θ, nI (τ.2 + 1), _, _, ⟨hO.1, hO.2.1, hO.2.2.1, hO.2.2.2.1, ⟨?_, ?_⟩, hO.2.2.2.2.2⟩, ⟨RC_tp hC (M' := sw_up (sw_up M 25 τ.2 (nI x')) 24 1 (nI (τ.2 + 1))) ⟨?_, ?_⟩ (fun k hk => ?_), ?_, fun Q => ?_⟩, RM_tp hM (M' := sw_up (sw_up N 6 τ.2 (nI x')) 0 8 (nI (τ.2 + 1))) ⟨?_, ?_⟩ (fun k h0 h6 => ?_) (fun j hj => ?_), ?_, fun Q => ?_⟩
      · show τ.2 + 1 ≤ 100
        omega
      · intro i hi
        have hi : i < τ.2 + 1 := hi
        show upT τ.1 τ.2 x' i ≤ 255
        by_cases e : i = τ.2
        · subst e
          rw [upT_s]
          omega
        · rw [upT_n _ _ e]
          exact ho.2 i (by omega)
      · exact z_up_s _ _ _ _
      · intro i hi
        have hi : i < τ.2 + 1 := hi
        show _ = nI (upT τ.1 τ.2 x' i)
        rw [z_up_n _ _ (by omega)]
        by_cases e : i = τ.2
        · subst e
          rw [upT_s, z_up_s]
        · rw [upT_n _ _ e, z_up_j _ _ e]
          exact hct.2 i (by omega)
      · rw [z_up_n _ _ (by omega), z_up_n _ _ (by omega)]
      · exact ((noM.rf.up (by omega)).up (by omega))
      · rw [c95]
        simp (disch := omega) only [s95_0, s95_1, s95_4, s95_5, s95_8, s95_11, s95_13, s95_14, s95_15, s95_18, s95_21, s95_24, s95_27, s95_29, s95_32, s95_33, s95_36, s95_39, s95_40, s95_43, z_lt_t, z_lt_f, z_le_t, z_le_f, z_lt0, z_ge0, z_cl, z_in, z_add, z_eq_f, z_ne0, z_00, z_10, z_01, z_11, z_neg1, z_nI_NONE, z_div, z_rem, z_rem2, sw_pu_s, sw_pu_n, true_and, and_true, true_or, or_true, if_true, if_false, not_true_eq_false, not_false_eq_true, h54, c55, s55_0, s55_1, s55_4, s55_7, s55_8, s55_11, s55_12, s55_15, s55_16, s55_17, s55_18, s55_19, s55_22, s55_23, s55_24, s55_27, s55_28, s55_31, c1, z_up_s, z_up_n, ↓if_pos, ↓if_neg]
      · exact z_up_s _ _ _ _
      · intro i hi
        have hi : i < τ.2 + 1 := hi
        show _ = nI (upT τ.1 τ.2 x' i)
        rw [z_up_n _ _ (by omega)]
        by_cases e : i = τ.2
        · subst e
          rw [upT_s, z_up_s]
        · rw [upT_n _ _ e, z_up_j _ _ e]
          exact hmt.2 i (by omega)
      · rw [z_up_n _ _ (by omega), z_up_n _ _ (by omega)]
      · rw [z_up_j _ _ (by omega), z_up_n _ _ (by omega)]
      · exact ((noC.rf.up (by omega)).up (by omega))
      · rw [c142]
        simp (disch := omega) only [s142_0, s142_1, s142_2, s142_3, s142_6, s142_9, s142_12, s142_14, s142_15, s142_16, s142_19, s142_21, s142_24, s142_26, s142_27, s142_28, s142_31, s142_32, s142_35, s142_36, s142_37, s142_38, s142_39, s142_42, s142_43, s142_44, s142_47, s142_48, s142_51, z_lt_t, z_lt_f, z_le_t, z_le_f, z_lt0, z_ge0, z_cl, z_in, z_add, z_eq_f, z_ne0, z_00, z_10, z_01, z_11, z_neg1, z_nI_NONE, z_div, z_rem, z_rem2, sw_pu_s, sw_pu_n, true_and, and_true, true_or, or_true, if_true, if_false, not_true_eq_false, not_false_eq_true, m1, k129, z_lT, z_xT, z_TI, z_up_s, z_up_n, ↓if_pos, ↓if_neg]
  · refine Res_id hO hC hM (-1000001) (fun Q => ?_) (fun Q => ?_)
    · rw [c95]
      by_cases b2 : x.toInt < 0
      · simp (disch := omega) only [s95_0, s95_1, s95_4, s95_5, s95_8, s95_11, s95_13, s95_14, s95_15, s95_18, s95_21, s95_24, s95_27, s95_29, s95_32, s95_33, s95_36, s95_39, s95_40, s95_43, z_lt_t, z_lt_f, z_le_t, z_le_f, z_lt0, z_ge0, z_cl, z_in, z_add, z_eq_f, z_ne0, z_00, z_10, z_01, z_11, z_neg1, z_nI_NONE, z_div, z_rem, z_rem2, sw_pu_s, sw_pu_n, true_and, and_true, true_or, or_true, if_true, if_false, not_true_eq_false, not_false_eq_true, z_ltI, z_gtI, z_leI, z_geI, z_lt0I, z_ge0I, z_gt0I, z_le0I, z_ibI, Int32.toInt_zero, ↓if_pos, ↓if_neg]
      · simp (disch := omega) only [s95_0, s95_1, s95_4, s95_5, s95_8, s95_11, s95_13, s95_14, s95_15, s95_18, s95_21, s95_24, s95_27, s95_29, s95_32, s95_33, s95_36, s95_39, s95_40, s95_43, z_lt_t, z_lt_f, z_le_t, z_le_f, z_lt0, z_ge0, z_cl, z_in, z_add, z_eq_f, z_ne0, z_00, z_10, z_01, z_11, z_neg1, z_nI_NONE, z_div, z_rem, z_rem2, sw_pu_s, sw_pu_n, true_and, and_true, true_or, or_true, if_true, if_false, not_true_eq_false, not_false_eq_true, z_ltI, z_gtI, z_leI, z_geI, z_lt0I, z_ge0I, z_gt0I, z_le0I, z_ibI, Int32.toInt_zero, ↓if_pos, ↓if_neg]
    · rw [c142]
      simp (disch := omega) only [s142_0, s142_1, s142_2, s142_3, s142_6, s142_9, s142_12, s142_14, s142_15, s142_16, s142_19, s142_21, s142_24, s142_26, s142_27, s142_28, s142_31, s142_32, s142_35, s142_36, s142_37, s142_38, s142_39, s142_42, s142_43, s142_44, s142_47, s142_48, s142_51, z_lt_t, z_lt_f, z_le_t, z_le_f, z_lt0, z_ge0, z_cl, z_in, z_add, z_eq_f, z_ne0, z_00, z_10, z_01, z_11, z_neg1, z_nI_NONE, z_div, z_rem, z_rem2, sw_pu_s, sw_pu_n, true_and, and_true, true_or, or_true, if_true, if_false, not_true_eq_false, not_false_eq_true, k129, z_lT, z_xT, z_TI, ↓if_pos, ↓if_neg]
end OPB
