theorem onF_at {T : Tw} {b : Nat} : ∀ n r, r + n ≤ 4 → onF T b n r ≠ 4 → T (37 + onF T b n r) = b := by
  intro n
  induction n with
  | zero => intro r _ h; exact absurd rfl h
  | succ n ih =>
    intro r hr h
    rw [onF_s] at h ⊢
    by_cases e : T (37 + r) = b
    · rw [if_pos e]; exact e
    · rw [if_neg e] at h ⊢
      exact ih (r + 1) (by omega) h
theorem onB_at {T : Tw} (w1 : T 1 ≤ 4) {b : Nat} (h : onB T b ≠ 4) : T (37 + onB T b) = b := onF_at (T 1) 0 (by omega) h
theorem PA_of {C S : Tw} {s b : Nat} (hs : s < 4) (hb : b < 4) (e : ∀ i, i < 37 → C i = S i) : PA C S s b :=
  ⟨e _ (by omega), e _ (by omega), e _ (by omega), e _ (by omega), e _ (by omega), e _ (by omega), e _ (by omega), e _ (by omega), e _ (by omega), e _ (by omega)⟩
section FIX
variable {d n : Nat} {T : Tw} {I : Nat → Tw} {π : Ps} {ρ : Rw} {τ : Tp} {ft sv : Int32} {θ : Tc} {h : Nat → Int32} {M N : sw_Mem} {c m : Nat} {as : List Value} {Q : Option Value → sw_Mem → Prop}
theorem Res_wl (hO : OK T I π ρ τ θ) (hC : RC T I π ρ τ ft sv θ M) (hM : RM T I π ρ τ ft sv θ N) (r : Int32) {M1 N1 : sw_Mem} (e1 : sC M M1) (e2 : sM N N1) (h1 : ∀ Q, sw_Cal (d + 20) c (.ref 11 :: as) M Q = Q (some (.int r)) (sw_up M1 11 9 (nI 0))) (h2 : ∀ Q, sw_Cal (d + 20) m (.ref 0 :: as) N Q = Q (some (.int r)) (sw_up N1 0 10 (nI 0))) : Res d c m as M N :=
  ⟨T, I, π, ρ, τ, ft, nI 0, θ, r, _, _, hO, ⟨RC_sv (RC_s hC e1) (nI 0), (sC_no e1).up (by omega), h1⟩, RM_sv hO.2.2.1.1 (RM_s hO.2.2.1.1 hM e2) (nI 0), (sM_no e2).up (by omega), h2⟩
theorem fit_al (hT : OKT T) {s b : Nat} (hs : s < T 1) (hb : b < T 0) (hn : n ≤ 16) : ftB gsT h n 0 (al T s b) = ftB (dfl b) h n 0 (al T s b) := by
  have w0 := hT.1.1
  have w1 := hT.1.2.1
  have h9 := hT.2.2.1
  have e1 : s < al T s b 1 := by rw [al_o _ (by omega)]; exact hs
  exact ft_eq (r := s) (b := b) (by omega) n 0 _ _ (PA_of (by omega) (by omega) (fun _ _ => rfl)) (WF_al hT.1 (Or.inr hb)) (WF_al hT.1 (Or.inr hb)) e1 e1 (al_r T (by omega)) (al_r T (by omega)) (fun q hq hqs => al_q T (by rw [al_o _ (by omega)] at hq; omega) hqs) (by rw [al_o _ (by omega)]; omega)
theorem fit_no (hT : OKT T) {b : Nat} (hb : b < T 0) : ftB gsT h n 0 (al T 4 b) = ftB (dfl b) h n 0 (al T 4 b) := by
  have w0 := hT.1.1
  have w1 := hT.1.2.1
  exact ft_no (by omega) n 0 _ (fun q hq => al_q T (by rw [al_o _ (by omega)] at hq; omega) (by rw [al_o _ (by omega)] at hq; omega))
theorem fit_ki (hT : OKT T) {s b k : Nat} (hs : s < T 1) (hb : b < T 0) (hl : T (37 + s) = b) (hn : n ≤ 16) (h1 : 1 ≤ k) (h5 : k ≤ 5) : ftB gsT h n 0 (upT (al T s b) (21 + s) k) = ftB (dfl b) h n 0 (upT T (21 + s) k) := by
  have w0 := hT.1.1
  have w1 := hT.1.2.1
  have h9 := hT.2.2.1
  have eA : ∀ i, i < 37 → al T s b i = T i := fun i hi => al_o T (by omega)
  have eC : ∀ i, i < 21 ∨ 25 ≤ i → upT (al T s b) (21 + s) k i = al T s b i := fun i hi => upT_n _ _ (by omega)
  have eS : ∀ i, i < 21 ∨ 25 ≤ i → upT T (21 + s) k i = T i := fun i hi => upT_n _ _ (by omega)
  refine ft_eq (r := s) (b := b) (by omega) n 0 _ _ (PA_of (by omega) (by omega) (fun i hi => ?_)) (WF_upk (WF_al hT.1 (Or.inr hb)) (by rw [eA _ (by omega)]; exact hs) h1 h5) (WF_upk hT.1 hs h1 h5) (by rw [eC _ (by omega), eA _ (by omega)]; exact hs) (by rw [eS _ (by omega)]; exact hs) (by rw [eC _ (by omega)]; exact al_r T (by omega)) (by rw [eS _ (by omega)]; exact hl) (fun q hq hqs => ?_) (by rw [eC _ (by omega), eA _ (by omega)]; omega)
  · by_cases e : i = 21 + s
    · subst e
      rw [upT_s, upT_s]
    · rw [upT_n _ _ e, upT_n _ _ e, eA i hi]
  · rw [eC _ (by omega), eA _ (by omega)] at hq
    rw [eC _ (by omega)]
    exact al_q T (by omega) hqs
theorem fit_ro (hT : OKT T) {s b k : Nat} (hs : s < T 1) (hb : b < T 0) (hl : T (37 + s) = b) (hn : n ≤ 16) (h9' : k ≤ 9) : ftB gsT h n 0 (upT (al T s b) (25 + s) k) = ftB (dfl b) h n 0 (upT T (25 + s) k) := by
  have w0 := hT.1.1
  have w1 := hT.1.2.1
  have h9 := hT.2.2.1
  have eA : ∀ i, i < 37 → al T s b i = T i := fun i hi => al_o T (by omega)
  have eC : ∀ i, i < 25 ∨ 29 ≤ i → upT (al T s b) (25 + s) k i = al T s b i := fun i hi => upT_n _ _ (by omega)
  have eS : ∀ i, i < 25 ∨ 29 ≤ i → upT T (25 + s) k i = T i := fun i hi => upT_n _ _ (by omega)
  refine ft_eq (r := s) (b := b) (by omega) n 0 _ _ (PA_of (by omega) (by omega) (fun i hi => ?_)) (WF_upr (WF_al hT.1 (Or.inr hb)) (by rw [eA _ (by omega)]; exact hs) h9') (WF_upr hT.1 hs h9') (by rw [eC _ (by omega), eA _ (by omega)]; exact hs) (by rw [eS _ (by omega)]; exact hs) (by rw [eC _ (by omega)]; exact al_r T (by omega)) (by rw [eS _ (by omega)]; exact hl) (fun q hq hqs => ?_) (by rw [eC _ (by omega), eA _ (by omega)]; omega)
  · by_cases e : i = 25 + s
    · subst e
      rw [upT_s, upT_s]
    · rw [upT_n _ _ e, upT_n _ _ e, eA i hi]
  · rw [eC _ (by omega), eA _ (by omega)] at hq
    rw [eC _ (by omega)]
    exact al_q T (by omega) hqs
set_option maxHeartbeats 1000000 in
theorem o_fits (x y z u w : Int32) : Opp 113 200 [.int x, .int y, .int z, .int u, .int w] := by
  intro d T I π ρ τ ft sv θ M N hO hC hM
  have hV := hC.1
  have hT := hM.1.1
  have hW := hO.1.1
  have w0 := hW.1
  have w1 := hW.2.1
  have hcr := hC.2.2.2.1
  have hmr := hM.2.2.2.1
  have ho := hO.2.2.2.1
  have h64 := fun d Q => k64 (d := d) (Q := Q) hV hW x
  have h161 := fun d Q => k161 (d := d) (Q := Q) hT hW x
  by_cases a : sw_ib x (T 0) ∧ sw_ib y 8 ∧ (1 ≤ u.toInt ∧ u.toInt ≤ 16) ∧ (0 ≤ w.toInt ∧ w.toInt ≤ 2)
  case neg =>
    refine Res_id hO hC hM (-1000001) (fun Q => ?_) (fun Q => ?_)
    · rw [c113]
      by_cases a1 : sw_ib x (T 0)
      · by_cases a2 : sw_ib y 8
        · by_cases a3 : u.toInt < 1
          · simp (disch := omega) only [s113_0, s113_1, s113_4, s113_5, s113_8, s113_11, s113_12, s113_15, s113_18, s113_20, s113_21, s113_24, s113_26, s113_28, s113_31, s113_33, s113_36, s113_38, s113_39, s113_42, s113_44, z_lt_t, z_lt_f, z_le_t, z_le_f, z_lt0, z_ge0, z_cl, z_in, z_add, z_eq_f, z_ne0, z_00, z_10, z_01, z_11, z_neg1, z_nI_NONE, z_div, z_rem, z_rem2, sw_pu_s, sw_pu_n, true_and, and_true, true_or, or_true, if_true, if_false, not_true_eq_false, not_false_eq_true, h64, k43, eq_true a1, eq_true a2, z_ltI, z_gtI, z_leI, z_geI, z_lt0I, z_ge0I, z_gt0I, z_le0I, z_ibI, Int32.toInt_zero, ↓if_pos, ↓if_neg]
          · by_cases a4 : 16 < u.toInt
            · simp (disch := omega) only [s113_0, s113_1, s113_4, s113_5, s113_8, s113_11, s113_12, s113_15, s113_18, s113_20, s113_21, s113_24, s113_26, s113_28, s113_31, s113_33, s113_36, s113_38, s113_39, s113_42, s113_44, z_lt_t, z_lt_f, z_le_t, z_le_f, z_lt0, z_ge0, z_cl, z_in, z_add, z_eq_f, z_ne0, z_00, z_10, z_01, z_11, z_neg1, z_nI_NONE, z_div, z_rem, z_rem2, sw_pu_s, sw_pu_n, true_and, and_true, true_or, or_true, if_true, if_false, not_true_eq_false, not_false_eq_true, h64, k43, eq_true a1, eq_true a2, z_ltI, z_gtI, z_leI, z_geI, z_lt0I, z_ge0I, z_gt0I, z_le0I, z_ibI, Int32.toInt_zero, ↓if_pos, ↓if_neg]
            · have a5 : w.toInt < 0 ∨ 2 < w.toInt := by
                rcases Int.lt_or_le w.toInt 0 with q | q
                · exact Or.inl q
                · rcases Int.lt_or_le 2 w.toInt with q' | q'
                  · exact Or.inr q'
                  · exact absurd ⟨a1, a2, ⟨by omega, by omega⟩, q, q'⟩ a
              by_cases a6 : w.toInt < 0
              · simp (disch := omega) only [s113_0, s113_1, s113_4, s113_5, s113_8, s113_11, s113_12, s113_15, s113_18, s113_20, s113_21, s113_24, s113_26, s113_28, s113_31, s113_33, s113_36, s113_38, s113_39, s113_42, s113_44, z_lt_t, z_lt_f, z_le_t, z_le_f, z_lt0, z_ge0, z_cl, z_in, z_add, z_eq_f, z_ne0, z_00, z_10, z_01, z_11, z_neg1, z_nI_NONE, z_div, z_rem, z_rem2, sw_pu_s, sw_pu_n, true_and, and_true, true_or, or_true, if_true, if_false, not_true_eq_false, not_false_eq_true, h64, k43, eq_true a1, eq_true a2, z_ltI, z_gtI, z_leI, z_geI, z_lt0I, z_ge0I, z_gt0I, z_le0I, z_ibI, Int32.toInt_zero, ↓if_pos, ↓if_neg]
              · simp (disch := omega) only [s113_0, s113_1, s113_4, s113_5, s113_8, s113_11, s113_12, s113_15, s113_18, s113_20, s113_21, s113_24, s113_26, s113_28, s113_31, s113_33, s113_36, s113_38, s113_39, s113_42, s113_44, z_lt_t, z_lt_f, z_le_t, z_le_f, z_lt0, z_ge0, z_cl, z_in, z_add, z_eq_f, z_ne0, z_00, z_10, z_01, z_11, z_neg1, z_nI_NONE, z_div, z_rem, z_rem2, sw_pu_s, sw_pu_n, true_and, and_true, true_or, or_true, if_true, if_false, not_true_eq_false, not_false_eq_true, h64, k43, eq_true a1, eq_true a2, z_ltI, z_gtI, z_leI, z_geI, z_lt0I, z_ge0I, z_gt0I, z_le0I, z_ibI, Int32.toInt_zero, ↓if_pos, ↓if_neg]
        · simp (disch := omega) only [s113_0, s113_1, s113_4, s113_5, s113_8, s113_11, s113_12, s113_15, s113_18, s113_20, s113_21, s113_24, s113_26, s113_28, s113_31, s113_33, s113_36, s113_38, s113_39, s113_42, s113_44, z_lt_t, z_lt_f, z_le_t, z_le_f, z_lt0, z_ge0, z_cl, z_in, z_add, z_eq_f, z_ne0, z_00, z_10, z_01, z_11, z_neg1, z_nI_NONE, z_div, z_rem, z_rem2, sw_pu_s, sw_pu_n, true_and, and_true, true_or, or_true, if_true, if_false, not_true_eq_false, not_false_eq_true, h64, k43, eq_true a1, eq_false a2]
      · simp (disch := omega) only [s113_0, s113_1, s113_4, s113_5, s113_8, s113_11, s113_12, s113_15, s113_18, s113_20, s113_21, s113_24, s113_26, s113_28, s113_31, s113_33, s113_36, s113_38, s113_39, s113_42, s113_44, z_lt_t, z_lt_f, z_le_t, z_le_f, z_lt0, z_ge0, z_cl, z_in, z_add, z_eq_f, z_ne0, z_00, z_10, z_01, z_11, z_neg1, z_nI_NONE, z_div, z_rem, z_rem2, sw_pu_s, sw_pu_n, true_and, and_true, true_or, or_true, if_true, if_false, not_true_eq_false, not_false_eq_true, h64, eq_false a1]
    · rw [c200]
      by_cases a1 : sw_ib x (T 0)
      · by_cases a2 : sw_ib y 8
        · by_cases a3 : 1 ≤ u.toInt ∧ u.toInt ≤ 16
          · have a5 : ¬ (0 ≤ w.toInt ∧ w.toInt ≤ 2) := fun q => a ⟨a1, a2, a3, q⟩
            simp (disch := omega) only [s200_0, s200_1, s200_2, s200_5, s200_8, s200_9, s200_12, s200_15, s200_17, s200_18, s200_19, s200_22, s200_25, s200_28, s200_30, s200_31, s200_32, s200_35, s200_38, s200_41, s200_43, z_lt_t, z_lt_f, z_le_t, z_le_f, z_lt0, z_ge0, z_cl, z_in, z_add, z_eq_f, z_ne0, z_00, z_10, z_01, z_11, z_neg1, z_nI_NONE, z_div, z_rem, z_rem2, sw_pu_s, sw_pu_n, true_and, and_true, true_or, or_true, if_true, if_false, not_true_eq_false, not_false_eq_true, h161, k135, eq_true a1, eq_true a2, k129, z_lT, z_xT, ↓if_pos, ↓if_neg]
          · simp (disch := omega) only [s200_0, s200_1, s200_2, s200_5, s200_8, s200_9, s200_12, s200_15, s200_17, s200_18, s200_19, s200_22, s200_25, s200_28, s200_30, s200_31, s200_32, s200_35, s200_38, s200_41, s200_43, z_lt_t, z_lt_f, z_le_t, z_le_f, z_lt0, z_ge0, z_cl, z_in, z_add, z_eq_f, z_ne0, z_00, z_10, z_01, z_11, z_neg1, z_nI_NONE, z_div, z_rem, z_rem2, sw_pu_s, sw_pu_n, true_and, and_true, true_or, or_true, if_true, if_false, not_true_eq_false, not_false_eq_true, h161, k135, eq_true a1, eq_true a2, k129, z_lT, z_xT, ↓if_pos, ↓if_neg]
        · simp (disch := omega) only [s200_0, s200_1, s200_2, s200_5, s200_8, s200_9, s200_12, s200_15, s200_17, s200_18, s200_19, s200_22, s200_25, s200_28, s200_30, s200_31, s200_32, s200_35, s200_38, s200_41, s200_43, z_lt_t, z_lt_f, z_le_t, z_le_f, z_lt0, z_ge0, z_cl, z_in, z_add, z_eq_f, z_ne0, z_00, z_10, z_01, z_11, z_neg1, z_nI_NONE, z_div, z_rem, z_rem2, sw_pu_s, sw_pu_n, true_and, and_true, true_or, or_true, if_true, if_false, not_true_eq_false, not_false_eq_true, h161, k135, eq_true a1, eq_false a2]
      · simp (disch := omega) only [s200_0, s200_1, s200_2, s200_5, s200_8, s200_9, s200_12, s200_15, s200_17, s200_18, s200_19, s200_22, s200_25, s200_28, s200_30, s200_31, s200_32, s200_35, s200_38, s200_41, s200_43, z_lt_t, z_lt_f, z_le_t, z_le_f, z_lt0, z_ge0, z_cl, z_in, z_add, z_eq_f, z_ne0, z_00, z_10, z_01, z_11, z_neg1, z_nI_NONE, z_div, z_rem, z_rem2, sw_pu_s, sw_pu_n, true_and, and_true, true_or, or_true, if_true, if_false, not_true_eq_false, not_false_eq_true, h161, eq_false a1]
  obtain ⟨a1, a2, a3, a4⟩ := a
  have t1 := eq_true a1
  simp only [t1, if_true] at h64 h161
  obtain ⟨b, hb, rfl⟩ := sw_ib_of a1 (by omega)
  obtain ⟨r, hr, rfl⟩ := sw_ib_of a2 (by omega)
  obtain ⟨w', hw, rfl⟩ := sw_ib_of (x := w) (n := 3) (by rw [z_ibI]; omega) (by omega)
  obtain ⟨g1, g2, g3⟩ := hmr r hr
  have o2 := ho r hr
  have h44 := fun d Q => k44 (d := d) (Q := Q) hcr ho hr
  have e1 : (-1000010 - nI 1 : Int32) ≠ 0 := by decide
  have e2 : (-1000010 - nI 2 : Int32) ≠ 0 := by decide
  have f1 := eq_false e1
  have f2 := eq_false e2
  by_cases h0 : ρ.2.1 r = 0
  · refine Res_sv hO hC hM (-1000010 - nI 1) (nI 1) (fun Q => ?_) (fun Q => ?_)
    · rw [c113]
      simp (disch := omega) only [s113_0, s113_1, s113_4, s113_5, s113_8, s113_11, s113_12, s113_15, s113_18, s113_20, s113_21, s113_24, s113_26, s113_28, s113_31, s113_33, s113_36, s113_38, s113_39, s113_42, s113_44, s113_45, s113_46, s113_49, s113_50, s113_53, s113_56, s113_57, s113_58, s113_61, z_lt_t, z_lt_f, z_le_t, z_le_f, z_lt0, z_ge0, z_cl, z_in, z_add, z_eq_f, z_ne0, z_00, z_10, z_01, z_11, z_neg1, z_nI_NONE, z_div, z_rem, z_rem2, sw_pu_s, sw_pu_n, true_and, and_true, true_or, or_true, if_true, if_false, not_true_eq_false, not_false_eq_true, h64, k43, z_ibt, h0, h44, k124, z_ltI, z_gtI, z_leI, z_geI, z_lt0I, z_ge0I, z_gt0I, z_le0I, z_ibI, Int32.toInt_zero, z_TI, ↓if_pos, ↓if_neg]
    · rw [c200]
      simp (disch := omega) only [s200_0, s200_1, s200_2, s200_5, s200_8, s200_9, s200_12, s200_15, s200_17, s200_18, s200_19, s200_22, s200_25, s200_28, s200_30, s200_31, s200_32, s200_35, s200_38, s200_41, s200_43, s200_44, s200_45, s200_46, s200_47, s200_49, s200_52, s200_54, s200_56, s200_59, s200_61, c195, s195_0, s195_1, s195_4, s195_5, s195_6, s195_9, s195_10, s195_11, s195_14, s195_17, s195_18, s195_19, s195_20, s195_21, s195_24, s195_27, s195_28, s195_31, s195_32, s195_33, s195_36, z_lt_t, z_lt_f, z_le_t, z_le_f, z_lt0, z_ge0, z_cl, z_in, z_add, z_eq_f, z_ne0, z_00, z_10, z_01, z_11, z_neg1, z_nI_NONE, z_div, z_rem, z_rem2, sw_pu_s, sw_pu_n, true_and, and_true, true_or, or_true, if_true, if_false, not_true_eq_false, not_false_eq_true, h161, k135, z_ibt, k129, z_lT, z_xT, z_TI, g2, z_szvg, h0, k133, f1, ↓if_pos, ↓if_neg]
  obtain ⟨m, hm⟩ : ∃ m, ρ.2.1 r = m + 1 := ⟨ρ.2.1 r - 1, by omega⟩
  have h45 := fun d Q => k45 (d := d) (Q := Q) hcr ho hr hm z u
  have h139 := fun d Q => k139 (d := d) (Q := Q) hmr ho hr hm z u
  by_cases h2 : hd z u m
  case neg =>
    refine Res_sv hO hC hM (-1000010 - nI 2) (nI 2) (fun Q => ?_) (fun Q => ?_)
    · rw [c113]
      simp (disch := omega) only [s113_0, s113_1, s113_4, s113_5, s113_8, s113_11, s113_12, s113_15, s113_18, s113_20, s113_21, s113_24, s113_26, s113_28, s113_31, s113_33, s113_36, s113_38, s113_39, s113_42, s113_44, s113_45, s113_46, s113_49, s113_50, s113_53, s113_56, s113_57, s113_58, s113_61, s113_62, s113_63, s113_66, s113_67, s113_68, s113_70, s113_73, s113_76, s113_77, s113_78, s113_81, z_lt_t, z_lt_f, z_le_t, z_le_f, z_lt0, z_ge0, z_cl, z_in, z_add, z_eq_f, z_ne0, z_00, z_10, z_01, z_11, z_neg1, z_nI_NONE, z_div, z_rem, z_rem2, sw_pu_s, sw_pu_n, true_and, and_true, true_or, or_true, if_true, if_false, not_true_eq_false, not_false_eq_true, h64, k43, z_ibt, h0, h44, h45, h2, k124, z_ltI, z_gtI, z_leI, z_geI, z_lt0I, z_ge0I, z_gt0I, z_le0I, z_ibI, Int32.toInt_zero, z_TI, ↓if_pos, ↓if_neg]
    · rw [c200]
      simp (disch := omega) only [s200_0, s200_1, s200_2, s200_5, s200_8, s200_9, s200_12, s200_15, s200_17, s200_18, s200_19, s200_22, s200_25, s200_28, s200_30, s200_31, s200_32, s200_35, s200_38, s200_41, s200_43, s200_44, s200_45, s200_46, s200_47, s200_49, s200_52, s200_54, s200_56, s200_59, s200_61, c195, s195_0, s195_1, s195_4, s195_5, s195_6, s195_9, s195_10, s195_11, s195_14, s195_17, s195_18, s195_19, s195_20, s195_21, s195_24, s195_27, s195_28, s195_31, s195_32, s195_33, s195_36, z_lt_t, z_lt_f, z_le_t, z_le_f, z_lt0, z_ge0, z_cl, z_in, z_add, z_eq_f, z_ne0, z_00, z_10, z_01, z_11, z_neg1, z_nI_NONE, z_div, z_rem, z_rem2, sw_pu_s, sw_pu_n, true_and, and_true, true_or, or_true, if_true, if_false, not_true_eq_false, not_false_eq_true, h161, k135, z_ibt, k129, z_lT, z_xT, z_TI, g2, z_szvg, h0, h139, h2, k133, f2, ↓if_pos, ↓if_neg]
  obtain ⟨i, n, rfl, rfl, hi⟩ := hd_of h2 (by omega)
  have hn : 1 ≤ n ∧ n ≤ 16 := by
    obtain ⟨q1, q2, q3⟩ := h2
    have hnn : (nI n).toInt ≤ 16 := a3.2
    have h1n : 1 ≤ (nI n).toInt := a3.1
    by_cases q : n < 2 ^ 31
    · rw [nI_toInt q] at hnn h1n
      omega
    · omega
  have h2' := eq_true h2
  obtain ⟨M1, p1, p2, p3, p4⟩ := k14 (d := d + 17) hcr hr (show i + n ≤ 40 by omega) hn.2
  have HC : IsV M1 34 T ∧ M1 82 2 = nI n ∧ ∀ j, j < n → M1 90 j = ρ.2.2 r (i + j) := ⟨IsV_c hV (fun k _ _ => p1 k (by omega)), p3, p2⟩
  have HM : IsM N 0 T ∧ ∀ j, j < n → N 5 (40 * r + i + j) = ρ.2.2 r (i + j) := ⟨hT, fun j hj => by rw [Nat.add_assoc]; exact g3 (i + j) (by omega)⟩
  have hL := hO.1.2.2.2.1 (by omega)
  rcases (show w' = 0 ∨ w' = 1 ∨ w' = 2 by omega) with rfl | rfl | rfl
  · obtain ⟨M2, m1, m2⟩ := k16L (d := d + 13) (n := n) (h := fun q => ρ.2.2 r (i + q)) hn.2 hO.1 hb (T 1) 0 (nI 0) M1 (by omega) HC
    obtain ⟨N2, n1, n2⟩ := k198L (d := d + 14) (n := n) (h := fun q => ρ.2.2 r (i + q)) hn.2 hO.1 hL hr (show i + n ≤ 40 by omega) hb 5 0 (nI 0) sw_U N (by omega) HM (Or.inl rfl)
    have eq := orb_5 (P := fP n (fun q => ρ.2.2 r (i + q)) b T) (P' := fun s => ftB gsT (fun q => ρ.2.2 r (i + q)) n 0 (al T s b)) (t := T 1) w1 (fun j hj => by
      show fP n _ b T j = ftB gsT _ n 0 (al T j b)
      rw [fit_al hO.1 hj hb hn.2]
      unfold fP
      rw [decide_eq_true hj, Bool.or_true, Bool.true_and]) (fun j h1 h2 => by
      unfold fP
      rw [decide_eq_false (show ¬ j = 4 by omega), decide_eq_false (show ¬ j < T 1 by omega)]
      rfl)
    have e4 : fP n (fun q => ρ.2.2 r (i + q)) b T 4 = ftB gsT (fun q => ρ.2.2 r (i + q)) n 0 (al T 4 b) := by
      rw [fit_no hO.1 hb]
      rfl
    rw [e4] at eq
    rw [← eq] at m2
    refine Res_wl hO hC hM (orb (fP n (fun q => ρ.2.2 r (i + q)) b T) 5 0 (nI 0)) (p1.tr m1) n1 (fun Q => ?_) (fun Q => ?_)
    · rw [c113]
      simp (disch := omega) only [s113_0, s113_1, s113_4, s113_5, s113_8, s113_11, s113_12, s113_15, s113_18, s113_20, s113_21, s113_24, s113_26, s113_28, s113_31, s113_33, s113_36, s113_38, s113_39, s113_42, s113_44, s113_45, s113_46, s113_49, s113_50, s113_53, s113_56, s113_57, s113_58, s113_61, s113_62, s113_63, s113_66, s113_67, s113_68, s113_70, s113_73, s113_76, s113_77, s113_78, s113_81, s113_82, s113_83, s113_86, s113_87, s113_90, s113_91, s113_92, s113_94, s113_97, s113_99, s113_124, s113_125, s113_126, s113_129, s113_130, s113_133, s113_134, s113_137, s113_140, z_lt_t, z_lt_f, z_le_t, z_le_f, z_lt0, z_ge0, z_cl, z_in, z_add, z_eq_f, z_ne0, z_00, z_10, z_01, z_11, z_neg1, z_nI_NONE, z_div, z_rem, z_rem2, sw_pu_s, sw_pu_n, true_and, and_true, true_or, or_true, if_true, if_false, not_true_eq_false, not_false_eq_true, h64, k43, z_ibt, h0, h44, h45, h2', p4, c16, s16_0, s16_1, s16_2, s16_3, m2, k125, show sw_pick [0, 1] [124, 141, 158] ((0 : Nat) : Int) = 124 from by decide, z_ltI, z_gtI, z_leI, z_geI, z_lt0I, z_ge0I, z_gt0I, z_le0I, z_ibI, Int32.toInt_zero, z_TI, ↓if_pos, ↓if_neg]
    · rw [c200]
      simp (disch := omega) only [s200_0, s200_1, s200_2, s200_5, s200_8, s200_9, s200_12, s200_15, s200_17, s200_18, s200_19, s200_22, s200_25, s200_28, s200_30, s200_31, s200_32, s200_35, s200_38, s200_41, s200_43, s200_44, s200_45, s200_46, s200_47, s200_49, s200_52, s200_54, s200_56, s200_59, s200_61, s200_62, s200_63, s200_65, s200_68, s200_69, s200_70, s200_71, s200_72, s200_74, s200_77, s200_80, s200_81, s200_82, s200_83, s200_84, s200_86, s200_88, s200_91, s200_94, c195, s195_0, s195_1, s195_4, s195_5, s195_6, s195_9, s195_10, s195_11, s195_14, s195_17, s195_18, s195_19, s195_20, s195_21, s195_24, s195_27, s195_28, s195_31, s195_32, s195_33, s195_36, z_lt_t, z_lt_f, z_le_t, z_le_f, z_lt0, z_ge0, z_cl, z_in, z_add, z_eq_f, z_ne0, z_00, z_10, z_01, z_11, z_neg1, z_nI_NONE, z_div, z_rem, z_rem2, sw_pu_s, sw_pu_n, true_and, and_true, true_or, or_true, if_true, if_false, not_true_eq_false, not_false_eq_true, h161, k135, z_ibt, k129, z_lT, z_xT, z_TI, g2, z_szvg, h0, h139, h2', c198, s198_0, s198_1, s198_3, s198_4, n2, k134, ↓if_pos, ↓if_neg]
  · by_cases hs4 : onB T b = 4
    · have h66 := fun d Q => k66 (d := d) (Q := Q) HC.1 hW (show b < 4 by omega)
      have h162 := fun d Q => k162 (d := d) (Q := Q) hT (by omega) hW (show b < 4 by omega)
      rw [hs4, bn_4] at h66 h162
      refine Res_wl hO hC hM (nI 0) p1 sM.rf (fun Q => ?_) (fun Q => ?_)
      · rw [c113]
        simp (disch := omega) only [s113_0, s113_1, s113_4, s113_5, s113_8, s113_11, s113_12, s113_15, s113_18, s113_20, s113_21, s113_24, s113_26, s113_28, s113_31, s113_33, s113_36, s113_38, s113_39, s113_42, s113_44, s113_45, s113_46, s113_49, s113_50, s113_53, s113_56, s113_57, s113_58, s113_61, s113_62, s113_63, s113_66, s113_67, s113_68, s113_70, s113_73, s113_76, s113_77, s113_78, s113_81, s113_82, s113_83, s113_86, s113_87, s113_90, s113_91, s113_92, s113_94, s113_97, s113_99, s113_124, s113_125, s113_126, s113_129, s113_130, s113_133, s113_134, s113_137, s113_140, s113_141, s113_142, s113_143, s113_146, s113_147, s113_150, s113_151, s113_154, s113_157, z_lt_t, z_lt_f, z_le_t, z_le_f, z_lt0, z_ge0, z_cl, z_in, z_add, z_eq_f, z_ne0, z_00, z_10, z_01, z_11, z_neg1, z_nI_NONE, z_div, z_rem, z_rem2, sw_pu_s, sw_pu_n, true_and, and_true, true_or, or_true, if_true, if_false, not_true_eq_false, not_false_eq_true, h64, k43, z_ibt, h0, h44, h45, h2', p4, c17, s17_0, s17_1, s17_2, s17_5, s17_6, s17_7, s17_9, s17_12, s17_13, h66, k125, show sw_pick [0, 1] [124, 141, 158] ((1 : Nat) : Int) = 141 from by decide, z_ltI, z_gtI, z_leI, z_geI, z_lt0I, z_ge0I, z_gt0I, z_le0I, z_ibI, Int32.toInt_zero, z_TI, ↓if_pos, ↓if_neg]
      · rw [c200]
        simp (disch := omega) only [s200_0, s200_1, s200_2, s200_5, s200_8, s200_9, s200_12, s200_15, s200_17, s200_18, s200_19, s200_22, s200_25, s200_28, s200_30, s200_31, s200_32, s200_35, s200_38, s200_41, s200_43, s200_44, s200_45, s200_46, s200_47, s200_49, s200_52, s200_54, s200_56, s200_59, s200_61, s200_62, s200_63, s200_65, s200_68, s200_69, s200_70, s200_71, s200_72, s200_74, s200_77, s200_80, s200_81, s200_82, s200_83, s200_84, s200_86, s200_88, s200_91, s200_94, c195, s195_0, s195_1, s195_4, s195_5, s195_6, s195_9, s195_10, s195_11, s195_14, s195_17, s195_18, s195_19, s195_20, s195_21, s195_24, s195_27, s195_28, s195_31, s195_32, s195_33, s195_36, z_lt_t, z_lt_f, z_le_t, z_le_f, z_lt0, z_ge0, z_cl, z_in, z_add, z_eq_f, z_ne0, z_00, z_10, z_01, z_11, z_neg1, z_nI_NONE, z_div, z_rem, z_rem2, sw_pu_s, sw_pu_n, true_and, and_true, true_or, or_true, if_true, if_false, not_true_eq_false, not_false_eq_true, h161, k135, z_ibt, k129, z_lT, z_xT, z_TI, g2, z_szvg, h0, h139, h2', c199, s199_0, s199_1, s199_2, s199_3, s199_6, s199_8, s199_9, s199_11, s199_13, s199_14, s199_17, s199_18, s199_21, s199_22, s199_24, s199_26, s199_28, s199_29, s199_32, s199_34, s199_37, s199_39, s199_42, s199_44, s199_46, s199_111, s199_113, h162, k134, ↓if_pos, ↓if_neg]
    · have hs := (onB_lt T b).resolve_left hs4
      have hat := onB_at w1 hs4
      have h66 := fun d Q => k66 (d := d) (Q := Q) HC.1 hW (show b < 4 by omega)
      have h162 := fun d Q => k162 (d := d) (Q := Q) hT (by omega) hW (show b < 4 by omega)
      rw [bn_n hs4] at h66 h162
      obtain ⟨M2, m1, m2⟩ := k17L (d := d + 13) (n := n) (h := fun q => ρ.2.2 r (i + q)) hn.2 hO.1 hb hs 5 1 (nI 0) M1 (by omega) (by omega) HC
      obtain ⟨N2, n1, n2⟩ := k199L (d := d + 14) (n := n) (h := fun q => ρ.2.2 r (i + q)) (w := 1) hn.2 hO.1 hL hr (show i + n ≤ 40 by omega) hb hs (Or.inl rfl) 5 1 (nI 0) N rfl (fun _ => Nat.le_refl _) HM
      have eq := orb_c (P := fun k => ftB gsT (fun q => ρ.2.2 r (i + q)) n 0 (upT (al T (onB T b) b) (21 + onB T b) k)) (P' := fun k => ftB (dfl b) (fun q => ρ.2.2 r (i + q)) n 0 (upT T (21 + onB T b) k)) 5 1 (nI 0) (fun k h1 h5 => fit_ki hO.1 hs hb hat hn.2 h1 (by omega))
      rw [if_pos rfl] at n2
      rw [eq] at m2
      refine Res_wl hO hC hM (orb (fun k => ftB (dfl b) (fun q => ρ.2.2 r (i + q)) n 0 (upT T (21 + onB T b) k)) 5 1 (nI 0)) (p1.tr m1) n1 (fun Q => ?_) (fun Q => ?_)
      · rw [c113]
        simp (disch := omega) only [s113_0, s113_1, s113_4, s113_5, s113_8, s113_11, s113_12, s113_15, s113_18, s113_20, s113_21, s113_24, s113_26, s113_28, s113_31, s113_33, s113_36, s113_38, s113_39, s113_42, s113_44, s113_45, s113_46, s113_49, s113_50, s113_53, s113_56, s113_57, s113_58, s113_61, s113_62, s113_63, s113_66, s113_67, s113_68, s113_70, s113_73, s113_76, s113_77, s113_78, s113_81, s113_82, s113_83, s113_86, s113_87, s113_90, s113_91, s113_92, s113_94, s113_97, s113_99, s113_124, s113_125, s113_126, s113_129, s113_130, s113_133, s113_134, s113_137, s113_140, s113_141, s113_142, s113_143, s113_146, s113_147, s113_150, s113_151, s113_154, s113_157, z_lt_t, z_lt_f, z_le_t, z_le_f, z_lt0, z_ge0, z_cl, z_in, z_add, z_eq_f, z_ne0, z_00, z_10, z_01, z_11, z_neg1, z_nI_NONE, z_div, z_rem, z_rem2, sw_pu_s, sw_pu_n, true_and, and_true, true_or, or_true, if_true, if_false, not_true_eq_false, not_false_eq_true, h64, k43, z_ibt, h0, h44, h45, h2', p4, c17, s17_0, s17_1, s17_2, s17_5, s17_6, s17_7, s17_9, s17_12, s17_13, s17_14, s17_15, s17_17, s17_18, h66, m2, k125, show sw_pick [0, 1] [124, 141, 158] ((1 : Nat) : Int) = 141 from by decide, z_ltI, z_gtI, z_leI, z_geI, z_lt0I, z_ge0I, z_gt0I, z_le0I, z_ibI, Int32.toInt_zero, z_TI, ↓if_pos, ↓if_neg]
      · rw [c200]
        simp (disch := omega) only [s200_0, s200_1, s200_2, s200_5, s200_8, s200_9, s200_12, s200_15, s200_17, s200_18, s200_19, s200_22, s200_25, s200_28, s200_30, s200_31, s200_32, s200_35, s200_38, s200_41, s200_43, s200_44, s200_45, s200_46, s200_47, s200_49, s200_52, s200_54, s200_56, s200_59, s200_61, s200_62, s200_63, s200_65, s200_68, s200_69, s200_70, s200_71, s200_72, s200_74, s200_77, s200_80, s200_81, s200_82, s200_83, s200_84, s200_86, s200_88, s200_91, s200_94, c195, s195_0, s195_1, s195_4, s195_5, s195_6, s195_9, s195_10, s195_11, s195_14, s195_17, s195_18, s195_19, s195_20, s195_21, s195_24, s195_27, s195_28, s195_31, s195_32, s195_33, s195_36, z_lt_t, z_lt_f, z_le_t, z_le_f, z_lt0, z_ge0, z_cl, z_in, z_add, z_eq_f, z_ne0, z_00, z_10, z_01, z_11, z_neg1, z_nI_NONE, z_div, z_rem, z_rem2, sw_pu_s, sw_pu_n, true_and, and_true, true_or, or_true, if_true, if_false, not_true_eq_false, not_false_eq_true, h161, k135, z_ibt, k129, z_lT, z_xT, z_TI, g2, z_szvg, h0, h139, h2', c199, s199_0, s199_1, s199_2, s199_3, s199_6, s199_8, s199_9, s199_11, s199_13, s199_14, s199_17, s199_18, s199_21, s199_22, h162, n2, k134, ↓if_pos, ↓if_neg]
  · by_cases hs4 : onB T b = 4
    · have h66 := fun d Q => k66 (d := d) (Q := Q) HC.1 hW (show b < 4 by omega)
      have h162 := fun d Q => k162 (d := d) (Q := Q) hT (by omega) hW (show b < 4 by omega)
      rw [hs4, bn_4] at h66 h162
      refine Res_wl hO hC hM (nI 0) p1 sM.rf (fun Q => ?_) (fun Q => ?_)
      · rw [c113]
        simp (disch := omega) only [s113_0, s113_1, s113_4, s113_5, s113_8, s113_11, s113_12, s113_15, s113_18, s113_20, s113_21, s113_24, s113_26, s113_28, s113_31, s113_33, s113_36, s113_38, s113_39, s113_42, s113_44, s113_45, s113_46, s113_49, s113_50, s113_53, s113_56, s113_57, s113_58, s113_61, s113_62, s113_63, s113_66, s113_67, s113_68, s113_70, s113_73, s113_76, s113_77, s113_78, s113_81, s113_82, s113_83, s113_86, s113_87, s113_90, s113_91, s113_92, s113_94, s113_97, s113_99, s113_124, s113_125, s113_126, s113_129, s113_130, s113_133, s113_134, s113_137, s113_140, s113_141, s113_142, s113_143, s113_146, s113_147, s113_150, s113_151, s113_154, s113_157, s113_158, s113_159, s113_160, s113_163, s113_164, s113_167, s113_168, s113_171, s113_174, z_lt_t, z_lt_f, z_le_t, z_le_f, z_lt0, z_ge0, z_cl, z_in, z_add, z_eq_f, z_ne0, z_00, z_10, z_01, z_11, z_neg1, z_nI_NONE, z_div, z_rem, z_rem2, sw_pu_s, sw_pu_n, true_and, and_true, true_or, or_true, if_true, if_false, not_true_eq_false, not_false_eq_true, h64, k43, z_ibt, h0, h44, h45, h2', p4, c18, s18_0, s18_1, s18_2, s18_5, s18_6, s18_7, s18_9, s18_12, s18_13, h66, k125, show sw_pick [0, 1] [124, 141, 158] ((2 : Nat) : Int) = 158 from by decide, z_ltI, z_gtI, z_leI, z_geI, z_lt0I, z_ge0I, z_gt0I, z_le0I, z_ibI, Int32.toInt_zero, z_TI, ↓if_pos, ↓if_neg]
      · rw [c200]
        simp (disch := omega) only [s200_0, s200_1, s200_2, s200_5, s200_8, s200_9, s200_12, s200_15, s200_17, s200_18, s200_19, s200_22, s200_25, s200_28, s200_30, s200_31, s200_32, s200_35, s200_38, s200_41, s200_43, s200_44, s200_45, s200_46, s200_47, s200_49, s200_52, s200_54, s200_56, s200_59, s200_61, s200_62, s200_63, s200_65, s200_68, s200_69, s200_70, s200_71, s200_72, s200_74, s200_77, s200_80, s200_81, s200_82, s200_83, s200_84, s200_86, s200_88, s200_91, s200_94, c195, s195_0, s195_1, s195_4, s195_5, s195_6, s195_9, s195_10, s195_11, s195_14, s195_17, s195_18, s195_19, s195_20, s195_21, s195_24, s195_27, s195_28, s195_31, s195_32, s195_33, s195_36, z_lt_t, z_lt_f, z_le_t, z_le_f, z_lt0, z_ge0, z_cl, z_in, z_add, z_eq_f, z_ne0, z_00, z_10, z_01, z_11, z_neg1, z_nI_NONE, z_div, z_rem, z_rem2, sw_pu_s, sw_pu_n, true_and, and_true, true_or, or_true, if_true, if_false, not_true_eq_false, not_false_eq_true, h161, k135, z_ibt, k129, z_lT, z_xT, z_TI, g2, z_szvg, h0, h139, h2', c199, s199_0, s199_1, s199_2, s199_3, s199_6, s199_8, s199_9, s199_11, s199_13, s199_14, s199_17, s199_18, s199_21, s199_22, s199_24, s199_26, s199_28, s199_29, s199_32, s199_34, s199_37, s199_39, s199_42, s199_44, s199_46, s199_111, s199_113, h162, k134, ↓if_pos, ↓if_neg]
    · have hs := (onB_lt T b).resolve_left hs4
      have hat := onB_at w1 hs4
      have h66 := fun d Q => k66 (d := d) (Q := Q) HC.1 hW (show b < 4 by omega)
      have h162 := fun d Q => k162 (d := d) (Q := Q) hT (by omega) hW (show b < 4 by omega)
      rw [bn_n hs4] at h66 h162
      obtain ⟨M2, m1, m2⟩ := k18L (d := d + 13) (n := n) (h := fun q => ρ.2.2 r (i + q)) hn.2 hO.1 hb hs 10 0 (nI 0) M1 (by omega) HC
      obtain ⟨N2, n1, n2⟩ := k199L (d := d + 14) (n := n) (h := fun q => ρ.2.2 r (i + q)) (w := 2) hn.2 hO.1 hL hr (show i + n ≤ 40 by omega) hb hs (Or.inr rfl) 10 0 (nI 0) N rfl (fun q => absurd q (by decide)) HM
      have eq := orb_c (P := fun k => ftB gsT (fun q => ρ.2.2 r (i + q)) n 0 (upT (al T (onB T b) b) (25 + onB T b) k)) (P' := fun k => ftB (dfl b) (fun q => ρ.2.2 r (i + q)) n 0 (upT T (25 + onB T b) k)) 10 0 (nI 0) (fun k h1 h5 => fit_ro hO.1 hs hb hat hn.2 (by omega))
      rw [if_neg (show ¬ 2 = 1 by decide)] at n2
      rw [eq] at m2
      refine Res_wl hO hC hM (orb (fun k => ftB (dfl b) (fun q => ρ.2.2 r (i + q)) n 0 (upT T (25 + onB T b) k)) 10 0 (nI 0)) (p1.tr m1) n1 (fun Q => ?_) (fun Q => ?_)
      · rw [c113]
        simp (disch := omega) only [s113_0, s113_1, s113_4, s113_5, s113_8, s113_11, s113_12, s113_15, s113_18, s113_20, s113_21, s113_24, s113_26, s113_28, s113_31, s113_33, s113_36, s113_38, s113_39, s113_42, s113_44, s113_45, s113_46, s113_49, s113_50, s113_53, s113_56, s113_57, s113_58, s113_61, s113_62, s113_63, s113_66, s113_67, s113_68, s113_70, s113_73, s113_76, s113_77, s113_78, s113_81, s113_82, s113_83, s113_86, s113_87, s113_90, s113_91, s113_92, s113_94, s113_97, s113_99, s113_124, s113_125, s113_126, s113_129, s113_130, s113_133, s113_134, s113_137, s113_140, s113_141, s113_142, s113_143, s113_146, s113_147, s113_150, s113_151, s113_154, s113_157, s113_158, s113_159, s113_160, s113_163, s113_164, s113_167, s113_168, s113_171, s113_174, z_lt_t, z_lt_f, z_le_t, z_le_f, z_lt0, z_ge0, z_cl, z_in, z_add, z_eq_f, z_ne0, z_00, z_10, z_01, z_11, z_neg1, z_nI_NONE, z_div, z_rem, z_rem2, sw_pu_s, sw_pu_n, true_and, and_true, true_or, or_true, if_true, if_false, not_true_eq_false, not_false_eq_true, h64, k43, z_ibt, h0, h44, h45, h2', p4, c18, s18_0, s18_1, s18_2, s18_5, s18_6, s18_7, s18_9, s18_12, s18_13, s18_14, s18_15, s18_17, s18_18, h66, m2, k125, show sw_pick [0, 1] [124, 141, 158] ((2 : Nat) : Int) = 158 from by decide, z_ltI, z_gtI, z_leI, z_geI, z_lt0I, z_ge0I, z_gt0I, z_le0I, z_ibI, Int32.toInt_zero, z_TI, ↓if_pos, ↓if_neg]
      · rw [c200]
        simp (disch := omega) only [s200_0, s200_1, s200_2, s200_5, s200_8, s200_9, s200_12, s200_15, s200_17, s200_18, s200_19, s200_22, s200_25, s200_28, s200_30, s200_31, s200_32, s200_35, s200_38, s200_41, s200_43, s200_44, s200_45, s200_46, s200_47, s200_49, s200_52, s200_54, s200_56, s200_59, s200_61, s200_62, s200_63, s200_65, s200_68, s200_69, s200_70, s200_71, s200_72, s200_74, s200_77, s200_80, s200_81, s200_82, s200_83, s200_84, s200_86, s200_88, s200_91, s200_94, c195, s195_0, s195_1, s195_4, s195_5, s195_6, s195_9, s195_10, s195_11, s195_14, s195_17, s195_18, s195_19, s195_20, s195_21, s195_24, s195_27, s195_28, s195_31, s195_32, s195_33, s195_36, z_lt_t, z_lt_f, z_le_t, z_le_f, z_lt0, z_ge0, z_cl, z_in, z_add, z_eq_f, z_ne0, z_00, z_10, z_01, z_11, z_neg1, z_nI_NONE, z_div, z_rem, z_rem2, sw_pu_s, sw_pu_n, true_and, and_true, true_or, or_true, if_true, if_false, not_true_eq_false, not_false_eq_true, h161, k135, z_ibt, k129, z_lT, z_xT, z_TI, g2, z_szvg, h0, h139, h2', c199, s199_0, s199_1, s199_2, s199_3, s199_6, s199_8, s199_9, s199_11, s199_13, s199_14, s199_17, s199_18, s199_21, s199_22, h162, n2, k134, ↓if_pos, ↓if_neg]
end FIX
