theorem sm_mono {f g : Nat → Nat} : ∀ n, (∀ i, i < n → f i ≤ g i) → sm f n ≤ sm g n := by
  intro n
  induction n with
  | zero => intro _; exact Nat.le_refl _
  | succ n ih =>
    intro h
    have h1 := ih (fun i hi => h i (by omega))
    have h2 := h n (by omega)
    show sm f n + f n ≤ sm g n + g n
    omega
theorem nlW_p (T : Tw) : ∀ n, 0 < nlW T n := by
  intro n
  induction n with
  | zero => exact Nat.one_pos
  | succ n ih =>
    rw [nlW_s]
    split <;> omega
section BRK
variable {T : Tw} {I : Nat → Tw} {π : Ps} {ρ : Rw} {τ : Tp} {ft sv : Int32} {θ : Tc} {M N : sw_Mem} {d c m v : Nat} {as : List Value} {Q : Option Value → sw_Mem → Prop}
theorem mw_Zm (q c : Nat) : sm (mwF T q c) (2 ^ T 1) = Zm T q c (T 1) 0 := by
  unfold Zm
  exact sm_cong (fun s _ => by unfold mwF; rw [Nat.zero_add])
theorem Zc_al (w1 : T 1 ≤ 4) {q c : Nat} (hc : c ≤ 10) : Zc T q c (T 1) 0 ≤ alW T (T 1) := by
  have h1 := Zm_Zc (T := T) (q := q) hc (T 1) w1 0
  have h2 := nl_al T (T 1)
  have h3 : Zm T q c (T 1) 0 ≤ 10 ^ T 1 := by
    rw [← wyM_sum hc (T 1) w1, ← mw_Zm]
    exact sm_mono _ (fun s _ => by unfold mwF; split <;> omega)
  rw [h1, ← h2] at h3
  exact Nat.le_of_mul_le_mul_left h3 (nlW_p T _)
theorem o_breaks (x y w : Int32) : Opp 114 201 [.int x, .int y, .int w] := by
  intro d T I π ρ τ ft sv θ M N hO hC hM
  have hV := hC.1
  have hT := hM.1.1
  have hi := hM.1.2
  have hW := hO.1.1
  have w1 := hW.2.1
  have h62 := fun d Q => k62 (d := d) (Q := Q) hV hW
  by_cases h0 : 0 < T 0
  case neg =>
    rw [is1_n h0] at hi
    refine Res_id hO hC hM (-1000002) (fun Q => ?_) (fun Q => ?_)
    · rw [c114]
      simp (disch := omega) only [s114_0, s114_1, s114_4, s114_7, s114_10, s114_12, z_lt_t, z_lt_f, z_le_t, z_le_f, z_lt0, z_ge0, z_cl, z_in, z_add, z_eq_f, z_ne0, z_00, z_10, z_01, z_11, z_neg1, z_nI_NONE, z_div, z_rem, z_rem2, sw_pu_s, sw_pu_n, true_and, and_true, true_or, or_true, if_true, if_false, not_true_eq_false, not_false_eq_true, h62, h0]
    · rw [c201]
      simp (disch := omega) only [s201_0, s201_1, s201_4, s201_7, s201_9, z_lt_t, z_lt_f, z_le_t, z_le_f, z_lt0, z_ge0, z_cl, z_in, z_add, z_eq_f, z_ne0, z_00, z_10, z_01, z_11, z_neg1, z_nI_NONE, z_div, z_rem, z_rem2, sw_pu_s, sw_pu_n, true_and, and_true, true_or, or_true, if_true, if_false, not_true_eq_false, not_false_eq_true, hi]
  rw [is1_p h0] at hi
  by_cases a : (0 ≤ x.toInt ∧ x.toInt ≤ 999) ∧ (0 ≤ y.toInt ∧ y.toInt ≤ 10) ∧ (0 ≤ w.toInt ∧ w.toInt ≤ 1)
  case neg =>
    refine Res_id hO hC hM (-1000001) (fun Q => ?_) (fun Q => ?_)
    · rw [c114]
      by_cases a1 : 0 ≤ x.toInt ∧ x.toInt ≤ 999
      · by_cases a2 : y.toInt < 0
        · simp (disch := omega) only [s114_0, s114_1, s114_4, s114_7, s114_10, s114_12, s114_13, s114_14, s114_17, s114_20, s114_21, s114_24, s114_25, s114_27, s114_30, s114_31, s114_34, s114_35, s114_36, s114_39, s114_41, z_lt_t, z_lt_f, z_le_t, z_le_f, z_lt0, z_ge0, z_cl, z_in, z_add, z_eq_f, z_ne0, z_00, z_10, z_01, z_11, z_neg1, z_nI_NONE, z_div, z_rem, z_rem2, sw_pu_s, sw_pu_n, true_and, and_true, true_or, or_true, if_true, if_false, not_true_eq_false, not_false_eq_true, h62, h0, k127, z_ltI, z_gtI, z_leI, z_geI, z_lt0I, z_ge0I, z_gt0I, z_le0I, z_ibI, Int32.toInt_zero, ↓if_pos, ↓if_neg]
        · by_cases a3 : 10 < y.toInt
          · simp (disch := omega) only [s114_0, s114_1, s114_4, s114_7, s114_10, s114_12, s114_13, s114_14, s114_17, s114_20, s114_21, s114_24, s114_25, s114_27, s114_30, s114_31, s114_34, s114_35, s114_36, s114_39, s114_41, z_lt_t, z_lt_f, z_le_t, z_le_f, z_lt0, z_ge0, z_cl, z_in, z_add, z_eq_f, z_ne0, z_00, z_10, z_01, z_11, z_neg1, z_nI_NONE, z_div, z_rem, z_rem2, sw_pu_s, sw_pu_n, true_and, and_true, true_or, or_true, if_true, if_false, not_true_eq_false, not_false_eq_true, h62, h0, k127, z_ltI, z_gtI, z_leI, z_geI, z_lt0I, z_ge0I, z_gt0I, z_le0I, z_ibI, Int32.toInt_zero, ↓if_pos, ↓if_neg]
          · by_cases a4 : w.toInt < 0
            · simp (disch := omega) only [s114_0, s114_1, s114_4, s114_7, s114_10, s114_12, s114_13, s114_14, s114_17, s114_20, s114_21, s114_24, s114_25, s114_27, s114_30, s114_31, s114_34, s114_35, s114_36, s114_39, s114_41, z_lt_t, z_lt_f, z_le_t, z_le_f, z_lt0, z_ge0, z_cl, z_in, z_add, z_eq_f, z_ne0, z_00, z_10, z_01, z_11, z_neg1, z_nI_NONE, z_div, z_rem, z_rem2, sw_pu_s, sw_pu_n, true_and, and_true, true_or, or_true, if_true, if_false, not_true_eq_false, not_false_eq_true, h62, h0, k127, z_ltI, z_gtI, z_leI, z_geI, z_lt0I, z_ge0I, z_gt0I, z_le0I, z_ibI, Int32.toInt_zero, ↓if_pos, ↓if_neg]
            · simp (disch := omega) only [s114_0, s114_1, s114_4, s114_7, s114_10, s114_12, s114_13, s114_14, s114_17, s114_20, s114_21, s114_24, s114_25, s114_27, s114_30, s114_31, s114_34, s114_35, s114_36, s114_39, s114_41, z_lt_t, z_lt_f, z_le_t, z_le_f, z_lt0, z_ge0, z_cl, z_in, z_add, z_eq_f, z_ne0, z_00, z_10, z_01, z_11, z_neg1, z_nI_NONE, z_div, z_rem, z_rem2, sw_pu_s, sw_pu_n, true_and, and_true, true_or, or_true, if_true, if_false, not_true_eq_false, not_false_eq_true, h62, h0, k127, z_ltI, z_gtI, z_leI, z_geI, z_lt0I, z_ge0I, z_gt0I, z_le0I, z_ibI, Int32.toInt_zero, ↓if_pos, ↓if_neg]
      · simp (disch := omega) only [s114_0, s114_1, s114_4, s114_7, s114_10, s114_12, s114_13, s114_14, s114_17, s114_20, s114_21, s114_24, s114_25, s114_27, s114_30, s114_31, s114_34, s114_35, s114_36, s114_39, s114_41, z_lt_t, z_lt_f, z_le_t, z_le_f, z_lt0, z_ge0, z_cl, z_in, z_add, z_eq_f, z_ne0, z_00, z_10, z_01, z_11, z_neg1, z_nI_NONE, z_div, z_rem, z_rem2, sw_pu_s, sw_pu_n, true_and, and_true, true_or, or_true, if_true, if_false, not_true_eq_false, not_false_eq_true, h62, h0, k127, ↓if_pos, ↓if_neg]
    · rw [c201]
      by_cases a1 : 0 ≤ x.toInt ∧ x.toInt ≤ 999
      · by_cases a2 : 0 ≤ y.toInt ∧ y.toInt ≤ 10
        · simp (disch := omega) only [s201_0, s201_1, s201_4, s201_7, s201_9, s201_10, s201_11, s201_12, s201_13, s201_16, s201_19, s201_22, s201_23, s201_24, s201_25, s201_28, s201_31, s201_34, s201_35, s201_36, s201_37, s201_38, s201_41, s201_44, s201_46, z_lt_t, z_lt_f, z_le_t, z_le_f, z_lt0, z_ge0, z_cl, z_in, z_add, z_eq_f, z_ne0, z_00, z_10, z_01, z_11, z_neg1, z_nI_NONE, z_div, z_rem, z_rem2, sw_pu_s, sw_pu_n, true_and, and_true, true_or, or_true, if_true, if_false, not_true_eq_false, not_false_eq_true, hi, k129, z_lT, z_xT, ↓if_pos, ↓if_neg]
        · simp (disch := omega) only [s201_0, s201_1, s201_4, s201_7, s201_9, s201_10, s201_11, s201_12, s201_13, s201_16, s201_19, s201_22, s201_23, s201_24, s201_25, s201_28, s201_31, s201_34, s201_35, s201_36, s201_37, s201_38, s201_41, s201_44, s201_46, z_lt_t, z_lt_f, z_le_t, z_le_f, z_lt0, z_ge0, z_cl, z_in, z_add, z_eq_f, z_ne0, z_00, z_10, z_01, z_11, z_neg1, z_nI_NONE, z_div, z_rem, z_rem2, sw_pu_s, sw_pu_n, true_and, and_true, true_or, or_true, if_true, if_false, not_true_eq_false, not_false_eq_true, hi, k129, z_lT, z_xT, ↓if_pos, ↓if_neg]
      · simp (disch := omega) only [s201_0, s201_1, s201_4, s201_7, s201_9, s201_10, s201_11, s201_12, s201_13, s201_16, s201_19, s201_22, s201_23, s201_24, s201_25, s201_28, s201_31, s201_34, s201_35, s201_36, s201_37, s201_38, s201_41, s201_44, s201_46, z_lt_t, z_lt_f, z_le_t, z_le_f, z_lt0, z_ge0, z_cl, z_in, z_add, z_eq_f, z_ne0, z_00, z_10, z_01, z_11, z_neg1, z_nI_NONE, z_div, z_rem, z_rem2, sw_pu_s, sw_pu_n, true_and, and_true, true_or, or_true, if_true, if_false, not_true_eq_false, not_false_eq_true, hi, k129, z_lT, z_xT, ↓if_pos, ↓if_neg]
  obtain ⟨q, hq, rfl⟩ := sw_ib_of (x := x) (n := 1000) (by rw [z_ibI]; omega) (by omega)
  obtain ⟨c, hc, rfl⟩ := sw_ib_of (x := y) (n := 11) (by rw [z_ibI]; omega) (by omega)
  obtain ⟨w', hw, rfl⟩ := sw_ib_of (x := w) (n := 2) (by rw [z_ibI]; omega) (by omega)
  have hE := Zc_al w1 (q := q) (show c ≤ 10 by omega)
  have hA := alW_le T (T 1)
  have hp := p10_le w1
  have hg : 0 < Nat.gcd (Zc T q c (T 1) 0) (alW T (T 1)) := Nat.gcd_pos_of_pos_right _ hA.1
  have hgl : Nat.gcd (Zc T q c (T 1) 0) (alW T (T 1)) ≤ alW T (T 1) := Nat.le_of_dvd hA.1 (Nat.gcd_dvd_right _ _)
  have h20 := fun d Q => k20 (d := d) (Q := Q) hV hW (show q ≤ 999 by omega) (show c ≤ 10 by omega)
  have h21 := fun d Q => k21 (d := d) (Q := Q) hV hW
  have h25 := fun d Q => k25 (d := d) (M := M) (Q := Q) (show Zc T q c (T 1) 0 < 2 ^ 20 by omega) (show alW T (T 1) < 2 ^ 20 by omega) hA.1 hE
  have eA := Zm_Zc (T := T) (q := q) (show c ≤ 10 by omega) (T 1) w1 0
  have eB := wyM_sum (show c ≤ 10 by omega) (T 1) w1
  rw [← nl_al T (T 1)] at eB
  rw [← mw_Zm] at eA
  have hn := nlW_p T (T 1)
  have hB : nlW T (T 1) * alW T (T 1) ≤ 10000 := by rw [nl_al]; exact hp
  have hAB : nlW T (T 1) * Zc T q c (T 1) 0 ≤ nlW T (T 1) * alW T (T 1) := Nat.mul_le_mul_left _ hE
  have eg : Nat.gcd (nlW T (T 1) * Zc T q c (T 1) 0) (nlW T (T 1) * alW T (T 1)) = nlW T (T 1) * Nat.gcd (Zc T q c (T 1) 0) (alW T (T 1)) := Nat.gcd_mul_left _ _ _
  have hgp : 0 < Nat.gcd (nlW T (T 1) * Zc T q c (T 1) 0) (nlW T (T 1) * alW T (T 1)) := by rw [eg]; exact Nat.mul_pos hn hg
  have hL : ∀ Q, sw_Cal (d + 20) 201 [.ref 0, .int (nI q), .int (nI c), .int (nI w')] N Q = Q (some (.int (nI ((if w' = 0 then Zc T q c (T 1) 0 else alW T (T 1)) / Nat.gcd (Zc T q c (T 1) 0) (alW T (T 1)))))) N := by
    intro Q
    obtain ⟨y7, y8, y9, ho⟩ := k201o (d := d + 15) (Q := Q) hT hW (show q ≤ 999 by omega) (show c ≤ 10 by omega) (nI w') (2 ^ T 1) 0 sw_U sw_U sw_U (by omega)
    rw [eA, eB] at ho
    have h2 := k201g (d := d + 19) (N := N) (Q := Q) (nI q) (nI c) hw (show nlW T (T 1) * Zc T q c (T 1) 0 < 2 ^ 20 by omega) (show nlW T (T 1) * alW T (T 1) < 2 ^ 20 by omega) _ _ _ y8 y9 (Nat.lt_succ_self _) (show nlW T (T 1) * Zc T q c (T 1) 0 < 2 ^ 20 by omega) (show nlW T (T 1) * alW T (T 1) < 2 ^ 20 by omega) hgp
    have e2 : (if w' = 0 then nlW T (T 1) * Zc T q c (T 1) 0 else nlW T (T 1) * alW T (T 1)) / Nat.gcd (nlW T (T 1) * Zc T q c (T 1) 0) (nlW T (T 1) * alW T (T 1)) = (if w' = 0 then Zc T q c (T 1) 0 else alW T (T 1)) / Nat.gcd (Zc T q c (T 1) 0) (alW T (T 1)) := by
      rw [eg]
      by_cases e : w' = 0
      · rw [if_pos e, if_pos e, Nat.mul_div_mul_left _ _ hn]
      · rw [if_neg e, if_neg e, Nat.mul_div_mul_left _ _ hn]
    rw [e2] at h2
    rw [c201]
    simp (disch := omega) only [s201_0, s201_1, s201_4, s201_7, s201_9, s201_10, s201_11, s201_12, s201_13, s201_16, s201_19, s201_22, s201_23, s201_24, s201_25, s201_28, s201_31, s201_34, s201_35, s201_36, s201_37, s201_38, s201_41, s201_44, s201_46, s201_47, s201_48, s201_50, s201_51, s201_53, s201_54, z_lt_t, z_lt_f, z_le_t, z_le_f, z_lt0, z_ge0, z_cl, z_in, z_add, z_eq_f, z_ne0, z_00, z_10, z_01, z_11, z_neg1, z_nI_NONE, z_div, z_rem, z_rem2, sw_pu_s, sw_pu_n, true_and, and_true, true_or, or_true, if_true, if_false, not_true_eq_false, not_false_eq_true, hi, k129, z_lT, z_xT, z_TI, ↓if_pos, ↓if_neg]
    refine Eq.trans ho ?_
    simp (disch := omega) only [s201_174, s201_176, s201_178, s201_180]
    exact h2
  refine Res_id hO hC hM (nI ((if w' = 0 then Zc T q c (T 1) 0 else alW T (T 1)) / Nat.gcd (Zc T q c (T 1) 0) (alW T (T 1)))) (fun Q => ?_) hL
  rw [c114]
  rcases (show w' = 0 ∨ w' = 1 by omega) with rfl | rfl
  · rw [if_pos rfl]
    simp (disch := omega) only [s114_0, s114_1, s114_4, s114_7, s114_10, s114_12, s114_13, s114_14, s114_17, s114_20, s114_21, s114_24, s114_25, s114_27, s114_30, s114_31, s114_34, s114_35, s114_36, s114_39, s114_41, s114_42, s114_43, s114_46, s114_47, s114_50, s114_51, s114_52, s114_55, s114_57, s114_58, s114_61, s114_62, s114_65, s114_68, s114_70, s114_72, s114_74, s114_77, s114_79, s114_80, s114_83, s114_85, s114_88, s114_90, s114_92, s114_93, z_lt_t, z_lt_f, z_le_t, z_le_f, z_lt0, z_ge0, z_cl, z_in, z_add, z_eq_f, z_ne0, z_00, z_10, z_01, z_11, z_neg1, z_nI_NONE, z_div, z_rem, z_rem2, sw_pu_s, sw_pu_n, true_and, and_true, true_or, or_true, if_true, if_false, not_true_eq_false, not_false_eq_true, h62, h0, k127, z_TI, z_ltI, z_gtI, z_leI, z_geI, z_lt0I, z_ge0I, z_gt0I, z_le0I, z_ibI, Int32.toInt_zero, h20, h21, h25, ↓if_pos, ↓if_neg]
  · rw [if_neg (by decide)]
    simp (disch := omega) only [s114_0, s114_1, s114_4, s114_7, s114_10, s114_12, s114_13, s114_14, s114_17, s114_20, s114_21, s114_24, s114_25, s114_27, s114_30, s114_31, s114_34, s114_35, s114_36, s114_39, s114_41, s114_42, s114_43, s114_46, s114_47, s114_50, s114_51, s114_52, s114_55, s114_57, s114_58, s114_61, s114_62, s114_65, s114_68, s114_70, s114_72, s114_74, s114_77, s114_79, s114_80, s114_83, s114_85, s114_88, s114_90, s114_92, s114_93, z_lt_t, z_lt_f, z_le_t, z_le_f, z_lt0, z_ge0, z_cl, z_in, z_add, z_eq_f, z_ne0, z_00, z_10, z_01, z_11, z_neg1, z_nI_NONE, z_div, z_rem, z_rem2, sw_pu_s, sw_pu_n, true_and, and_true, true_or, or_true, if_true, if_false, not_true_eq_false, not_false_eq_true, h62, h0, k127, z_TI, z_ltI, z_gtI, z_leI, z_geI, z_lt0I, z_ge0I, z_gt0I, z_le0I, z_ibI, Int32.toInt_zero, h20, h21, h25, ↓if_pos, ↓if_neg]
end BRK
