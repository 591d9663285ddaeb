theorem Sta_tr {P T T' : Tw} (h : Sta P T) (h' : Sta T T') : Sta P T' := by
  obtain ⟨a0, a1, a2, a3, a4, a5⟩ := h
  obtain ⟨b0, b1, b2, b3, b4, b5⟩ := h'
  refine ⟨a0.trans b0, a1.trans b1, a2.trans b2, a3.trans b3, fun r hr => ?_, fun b hb => ?_⟩
  · obtain ⟨x1, x2, x3⟩ := a4 r (by omega)
    obtain ⟨y1, y2, y3⟩ := b4 r hr
    exact ⟨x1.trans y1, x2.trans y2, x3.trans y3⟩
  · obtain ⟨x1, x2⟩ := a5 b (by omega)
    obtain ⟨y1, y2⟩ := b5 b hb
    exact ⟨x1.trans y1, x2.trans y2⟩
theorem Sta_rf (T : Tw) : Sta T T := ⟨rfl, rfl, rfl, rfl, fun _ _ => ⟨rfl, rfl, rfl⟩, fun _ _ => ⟨rfl, rfl⟩⟩
theorem Sta_sy {P T : Tw} (h : Sta P T) : Sta T P := by
  obtain ⟨a0, a1, a2, a3, a4, a5⟩ := h
  refine ⟨a0.symm, a1.symm, a2.symm, a3.symm, fun r hr => ?_, fun b hb => ?_⟩
  · obtain ⟨x1, x2, x3⟩ := a4 r (by omega)
    exact ⟨x1.symm, x2.symm, x3.symm⟩
  · obtain ⟨x1, x2⟩ := a5 b (by omega)
    exact ⟨x1.symm, x2.symm⟩
theorem OPs_kp {T T' : Tw} {π : Ps} (h : OPs T π) (hT : OKT T) (hS : Sta T T') : OPs T' (kpP π T) := by
  obtain ⟨h1, h2⟩ := h
  unfold kpP
  by_cases c : π.2 < 24
  · rw [if_pos c]
    refine ⟨by show π.2 + 1 ≤ 24; omega, fun i hi => ?_⟩
    have hi : i < π.2 + 1 := hi
    dsimp only
    by_cases e : i = π.2
    · rw [if_pos e]
      exact ⟨hT, hS⟩
    · rw [if_neg e]
      obtain ⟨a1, a2⟩ := h2 i (by omega)
      exact ⟨a1, Sta_tr a2 hS⟩
  · rw [if_neg c]
    refine ⟨Nat.le_refl 24, fun i hi => ?_⟩
    have hi : i < 24 := hi
    dsimp only
    by_cases e : i = 23
    · rw [if_pos e]
      exact ⟨hT, hS⟩
    · rw [if_neg e]
      obtain ⟨a1, a2⟩ := h2 (i + 1) (by omega)
      exact ⟨a1, Sta_tr a2 hS⟩
theorem kpP_le {π : Ps} {T : Tw} (h : π.2 ≤ 24) : (kpP π T).2 ≤ 24 := by
  unfold kpP
  split
  · show π.2 + 1 ≤ 24
    omega
  · exact Nat.le_refl 24
section KPM
variable {d : Nat} {N : sw_Mem} {T : Tw} {π : Ps} {Q : Option Value → sw_Mem → Prop}
theorem k158L (h : N 0 2 = nI 24) : ∀ l k, k + l = 943 → sw_WP d 158 2 [.ref 0, .int (nI k)] [] (sw_set N 1 (cpr (N 1) 82 41 0 k)) Q = sw_WP d 158 42 [.ref 0, .int (nI 943)] [] (sw_set N 1 (cpr (N 1) 82 41 0 943)) Q := by
  intro l
  induction l with
  | zero =>
    intro k hk
    obtain rfl : k = 943 := by omega
    refine (s158_2 ..).trans ?_
    simp (disch := omega) only [s158_3, s158_6, s158_9, s158_10, s158_13, s158_15, s158_18, s158_19, s158_22, s158_24, s158_25, s158_26, s158_27, s158_30, s158_32, s158_33, s158_34, s158_35, s158_36, s158_39, z_lt_t, z_lt_f, z_le_t, z_le_f, z_lt0, z_ge0, z_cl, z_in, z_add, z_eq_f, z_ne0, z_00, z_10, z_01, z_11, z_neg1, z_nI_NONE, z_div, z_rem, z_rem2, sw_pu_s, sw_pu_n, true_and, and_true, true_or, or_true, if_true, if_false, not_true_eq_false, not_false_eq_true]
  | succ l ih =>
    intro k hk
    have := ih (k + 1) (by omega)
    have hc : cpr (N 1) 82 41 0 k (82 + k) = N 1 (82 + k) := cpr_o (by omega)
    refine (s158_2 ..).trans ?_
    simp (disch := omega) only [s158_3, s158_6, s158_9, s158_10, s158_13, s158_15, s158_18, s158_19, s158_22, s158_24, s158_25, s158_26, s158_27, s158_30, s158_32, s158_33, s158_34, s158_35, s158_36, s158_39, z_lt_t, z_lt_f, z_le_t, z_le_f, z_lt0, z_ge0, z_cl, z_in, z_add, z_eq_f, z_ne0, z_00, z_10, z_01, z_11, z_neg1, z_nI_NONE, z_div, z_rem, z_rem2, sw_pu_s, sw_pu_n, true_and, and_true, true_or, or_true, if_true, if_false, not_true_eq_false, not_false_eq_true, z_set_s, z_set_n, h, hc, cpr_fw, this]
theorem k158 (hM : IsM N 0 T) (hP : MPs π N) (ho : π.2 ≤ 24) : ∃ N', IsM N' 0 T ∧ MPs (kpP π T) N' ∧ (∀ k, k ≠ 0 → k ≠ 1 → N' k = N k) ∧ (∀ j, j ≠ 2 → N' 0 j = N 0 j) ∧ (∀ j, j < 41 ∨ 1025 ≤ j → N' 1 j = N 1 j) ∧ ∀ Q, sw_Cal (d + 2) 158 [.ref 0] N Q = Q none N' := by
  obtain ⟨p1, p2⟩ := hP
  unfold kpP
  by_cases c : π.2 < 24
  · rw [if_pos c]
    have h157 := fun d M Q => k157 (d := d) (M := M) (Q := Q) (a := 0) (b := 41 + 41 * π.2) (by omega) (by omega) (by omega)
    have hid : sw_up N 0 2 (nI π.2) = N := sw_up_id p1
    refine ⟨sw_up (cpT N 0 (41 + 41 * π.2) 41) 0 2 (nI (π.2 + 1)), ?_, ⟨z_up_s _ _ _ _, fun i hi => ?_⟩, fun k h0 h1 => ?_, fun j hj => ?_, fun j hj => ?_, fun Q => ?_⟩
    · refine IsM_c hM (fun j _ _ => ?_)
      rw [z_up_n _ _ (by omega), cpT_out (by omega)]
    · have hi : i < π.2 + 1 := hi
      dsimp only
      by_cases e : i = π.2
      · rw [if_pos e, e]
        intro j hj
        rw [z_up_n _ _ (by omega), cpT_IsM hM j hj]
      · rw [if_neg e]
        intro j hj
        rw [z_up_n _ _ (by omega), cpT_keep (p2 i (by omega)) (by omega) j hj]
    · rw [z_up_n _ _ h0, cpT_k h1]
    · rw [z_up_j _ _ hj, cpT_k (by omega)]
    · rw [z_up_n _ _ (by omega), cpT_out (by omega)]
    · rw [c158]
      refine (s158_0 ..).trans ?_
      refine (s158_1 ..).trans ?_
      refine (s158_2 ..).trans ?_
      simp (disch := omega) only [s158_3, s158_6, s158_9, s158_10, s158_13, s158_15, s158_18, z_lt_t, z_lt_f, z_le_t, z_le_f, z_lt0, z_ge0, z_cl, z_in, z_add, z_eq_f, z_ne0, z_00, z_10, z_01, z_11, z_neg1, z_nI_NONE, z_div, z_rem, z_rem2, sw_pu_s, sw_pu_n, true_and, and_true, true_or, or_true, if_true, if_false, not_true_eq_false, not_false_eq_true, p1]
      simp (disch := omega) only [s158_42, s158_43, s158_44, s158_47, s158_48, s158_51, s158_53, s158_56, s158_57, s158_60, s158_61, s158_62, s158_65, s158_66, s158_67, s158_69, s158_71, s158_72, s158_75, s158_76, s158_77, s158_80, s158_81, s158_82, s158_85, s158_86, s158_87, s158_90, z_lt_t, z_lt_f, z_le_t, z_le_f, z_lt0, z_ge0, z_cl, z_in, z_add, z_eq_f, z_ne0, z_00, z_10, z_01, z_11, z_neg1, z_nI_NONE, z_div, z_rem, z_rem2, sw_pu_s, sw_pu_n, true_and, and_true, true_or, or_true, if_true, if_false, not_true_eq_false, not_false_eq_true, p1, z_sub, Nat.sub_zero, hid, z_mul, h157, cpT_k]
  · rw [if_neg c]
    have e24 : π.2 = 24 := by omega
    rw [e24] at p1 p2
    have h157 := fun d M Q => k157 (d := d) (M := M) (Q := Q) (a := 0) (b := 984) (by omega) (by omega) (by omega)
    have hL := fun d Q => k158L (d := d) (Q := Q) p1 943 0 (by omega)
    have h0 : cpr (N 1) 82 41 0 0 = N 1 := by funext p; exact cpr_o (by omega)
    rw [h0, set_id N 1 rfl] at hL
    refine ⟨sw_up (cpT (sw_up (sw_set N 1 (cpr (N 1) 82 41 0 943)) 0 2 (nI 23)) 0 984 41) 0 2 (nI 24), ?_, ⟨z_up_s _ _ _ _, fun i hi => ?_⟩, fun k h0 h1 => ?_, fun j hj => ?_, fun j hj => ?_, fun Q => ?_⟩
    · refine IsM_c hM (fun j _ _ => ?_)
      rw [z_up_n _ _ (by omega), cpT_out (by omega), z_up_n _ _ (by omega), z_set_s, cpr_o (by omega)]
    · have hi : i < 24 := hi
      dsimp only
      by_cases e : i = 23
      · rw [if_pos e, e]
        intro j hj
        rw [z_up_n _ _ (by omega), show 41 + 41 * 23 + j = 984 + j by omega, cpT_in hj, z_up_n _ _ (by omega), z_set_s, cpr_o (by omega), hM j hj]
      · rw [if_neg e]
        intro j hj
        have := p2 (i + 1) (by omega) j hj
        rw [z_up_n _ _ (by omega), cpT_out (by omega), z_up_n _ _ (by omega), z_set_s, cpr_i (by omega), ← this]
        rw [show 82 + (41 + 41 * i + j - 41) = 41 + 41 * (i + 1) + j by omega]
    · rw [z_up_n _ _ h0, cpT_k h1, z_up_n _ _ h0, z_set_n _ _ h1]
    · rw [z_up_j _ _ hj, cpT_k (by omega), z_up_j _ _ hj, z_set_n _ _ (by omega)]
    · rw [z_up_n _ _ (by omega), cpT_out (by omega), z_up_n _ _ (by omega), z_set_s, cpr_o (by omega)]
    · rw [c158]
      refine (s158_0 ..).trans ?_
      refine (s158_1 ..).trans ?_
      refine (hL (d + 1) Q).trans ?_
      simp (disch := omega) only [s158_42, s158_43, s158_44, s158_47, s158_48, s158_51, s158_53, s158_56, s158_57, s158_60, s158_61, s158_62, s158_65, s158_66, s158_67, s158_69, s158_71, s158_72, s158_75, s158_76, s158_77, s158_80, s158_81, s158_82, s158_85, s158_86, s158_87, s158_90, z_lt_t, z_lt_f, z_le_t, z_le_f, z_lt0, z_ge0, z_cl, z_in, z_add, z_eq_f, z_ne0, z_00, z_10, z_01, z_11, z_neg1, z_nI_NONE, z_div, z_rem, z_rem2, sw_pu_s, sw_pu_n, true_and, and_true, true_or, or_true, if_true, if_false, not_true_eq_false, not_false_eq_true, p1, z_sub, z_set_n, z_mul, z_up_s, h157, cpT_k, Nat.reduceAdd, Nat.reduceMul, Nat.reduceSub]
end KPM
section OPF
variable {T : Tw} {I : Nat → Tw} {π : Ps} {ρ : Rw} {τ : Tp} {ft sv : Int32} {θ : Tc} {M N : sw_Mem} {c m : Nat} {as : List Value}
theorem RC_ac {T' : Tw} {π' : Ps} {M' : sw_Mem} (h : RC T I π ρ τ ft sv θ M) (hV : IsV M' 34 T') (hP : CPs π' M') (e : ∀ k, k < 34 ∨ 41 ≤ k → k < 56 ∨ 82 ≤ k → M' k = M k) : RC T' I π' ρ τ ft sv θ M' := by
  obtain ⟨h1, h2, h3, h4, h5, h6, h7, h8, h9⟩ := h
  refine ⟨hV, CIm_c h2 (fun k _ _ => e k (by omega) (by omega)), hP, CRw_c h4 (fun k _ _ => e k (by omega) (by omega)), CTp_c h5 (fun k _ _ => e k (by omega) (by omega)), ?_, ?_, CTc_c h8 (fun k _ _ => e k (by omega) (by omega)), CKn_c h9 (fun k _ _ => e k (by omega) (by omega))⟩
  · rw [e 11 (by omega) (by omega)]; exact h6
  · rw [e 11 (by omega) (by omega)]; exact h7
theorem RM_ac {T' : Tw} {π' : Ps} {M' : sw_Mem} (h : RM T I π ρ τ ft sv θ M) (hV : IsM M' 0 T') (hi : M' 0 1 = is1 (T' 0)) (hP : MPs π' M') (e : ∀ k, k ≠ 0 → k ≠ 1 → k ≤ 7 → M' k = M k) (e0 : ∀ j, 8 ≤ j → j ≤ 12 → M' 0 j = M 0 j) (e1 : ∀ j, 1025 ≤ j → j < 1107 → M' 1 j = M 1 j) : RM T' I π' ρ τ ft sv θ M' := by
  obtain ⟨⟨h1, h1'⟩, h2, h3, h4, ⟨h5, h5'⟩, h6, h7, ⟨h8, h8'⟩⟩ := h
  exact ⟨⟨hV, hi⟩, MIm_c h2 e1 (e 2 (by omega) (by omega) (by omega)), hP, MRw_c h4 (fun k _ _ => e k (by omega) (by omega) (by omega)), ⟨by rw [e0 8 (by omega) (by omega)]; exact h5, by rw [e 6 (by omega) (by omega) (by omega)]; exact h5'⟩, by rw [e0 9 (by omega) (by omega)]; exact h6, by rw [e0 10 (by omega) (by omega)]; exact h7, ⟨by rw [e0 12 (by omega) (by omega)]; exact h8, by rw [e 7 (by omega) (by omega) (by omega)]; exact h8'⟩⟩
theorem OKT_ps (h : OKT T) (h4 : T 4 + 1 ≤ 999) : OKT (psT T) := by
  obtain ⟨a1, a2, a3, a4, a5⟩ := h
  have e0 : psT T 0 = T 0 := psT_o _ (by omega) (by omega) (by omega) (by omega)
  have e1 : psT T 1 = T 1 := psT_o _ (by omega) (by omega) (by omega) (by omega)
  have e2 : psT T 2 = T 2 := psT_o _ (by omega) (by omega) (by omega) (by omega)
  refine ⟨WF_ps a1 (by omega), fun b hb => ?_, by rw [psT_4]; exact h4, by rw [e0, e2]; exact a4, by rw [e0, e1]; exact a5⟩
  have := FB_ps a1 a2 b hb
  rw [psT_4]
  omega
theorem Sta_ps (T : Tw) (w0 : T 0 ≤ 4) (w1 : T 1 ≤ 4) : Sta T (psT T) := by
  have e : ∀ i, i ≠ 4 → (i < 17 ∨ 21 ≤ i) → (i < 29 ∨ 33 ≤ i) → (i < 9 ∨ 13 ≤ i) → T i = psT T i := fun i a b c e => (psT_o T a b c e).symm
  have e0 : psT T 0 = T 0 := psT_o _ (by omega) (by omega) (by omega) (by omega)
  have e1 : psT T 1 = T 1 := psT_o _ (by omega) (by omega) (by omega) (by omega)
  refine ⟨e0.symm, e1.symm, e 2 (by omega) (by omega) (by omega) (by omega), e 3 (by omega) (by omega) (by omega) (by omega), fun r hr => ?_, fun b hb => ?_⟩
  · rw [e1] at hr
    exact ⟨e _ (by omega) (by omega) (by omega) (by omega), e _ (by omega) (by omega) (by omega) (by omega), e _ (by omega) (by omega) (by omega) (by omega)⟩
  · rw [e0] at hb
    exact ⟨e _ (by omega) (by omega) (by omega) (by omega), e _ (by omega) (by omega) (by omega) (by omega)⟩
def dyP : Ps → Tw → Nat → Ps
  | π, _, 0 => π
  | π, T, k + 1 => dyP (kpP π T) (psT T) k
theorem dy_OK : ∀ n T π, OKT T → OPs T π → T 4 + n ≤ 999 → OKT (itT T n) ∧ OPs (itT T n) (dyP π T n) := by
  intro n
  induction n with
  | zero => intro T π h1 h2 _; exact ⟨h1, h2⟩
  | succ n ih =>
    intro T π h1 h2 h4
    exact ih (psT T) (kpP π T) (OKT_ps h1 (by omega)) (OPs_kp h2 h1 (Sta_ps T h1.1.1 h1.1.2.1)) (by rw [psT_4]; omega)
theorem k98L {d K : Nat} (hK : K ≤ 24) : ∀ n i acc (M : sw_Mem) (T : Tw) (π : Ps), i + n = K → acc ≤ 144 * i → IsV M 34 T → OKT T → T 4 + n ≤ 999 → CPs π M → π.2 ≤ 24 →
    ∃ M', IsV M' 34 (itT T n) ∧ CPs (dyP π T n) M' ∧ (∀ k, k < 34 ∨ 41 ≤ k → k < 56 ∨ 82 ≤ k → M' k = M k) ∧ ∀ Q, sw_WP (d + 5) 98 49 [.ref 11, .int (nI K), .int (nI acc), .int (nI i)] [] M Q = Q (some (.int (nI (acc + gdT T n)))) M' := by
  intro n
  induction n with
  | zero =>
    intro i acc M T π h hacc hV hT h4 hP ho
    obtain rfl : i = K := by omega
    refine ⟨M, hV, hP, fun _ _ _ => rfl, fun Q => ?_⟩
    refine (s98_49 ..).trans ?_
    simp (disch := omega) only [s98_50, s98_51, s98_54, s98_55, s98_58, s98_59, s98_62, s98_65, s98_66, s98_67, s98_70, s98_73, s98_74, s98_75, s98_78, s98_81, s98_82, z_lt_t, z_lt_f, z_le_t, z_le_f, z_lt0, z_ge0, z_cl, z_in, z_add, z_eq_f, z_ne0, z_00, z_10, z_01, z_11, z_neg1, z_nI_NONE, z_div, z_rem, z_rem2, sw_pu_s, sw_pu_n, true_and, and_true, true_or, or_true, if_true, if_false, not_true_eq_false, not_false_eq_true, gdT, Nat.add_zero]
  | succ n ih =>
    intro i acc M T π h hacc hV hT h4 hP ho
    have hv := hV.1
    obtain ⟨M1, a1, a2, a3⟩ := k0 (d := d + 3) hV hT.1.1 hT.1.2.1 hP ho
    have hV1 : IsV M1 34 T := IsV_c hV (fun k _ _ => a2 k (by omega))
    obtain ⟨M2, b1, b2, b3⟩ := k72 (d := d + 1) hV1 hT.1 hT.2.1 (by have := hT.2.2.1; omega)
    have hg := gsT_le hT.1
    have hP2 : CPs (kpP π T) M2 := CPs_c a1 (fun k _ _ => b2 k (by omega))
    obtain ⟨M3, c1, c2, c3, c4⟩ := ih (i + 1) (acc + gsT T) M2 (psT T) (kpP π T) (by omega) (by omega) b1 (OKT_ps hT (by omega)) (by rw [psT_4]; omega) hP2 (kpP_le ho)
    refine ⟨M3, c1, c2, fun k h1 h2 => by rw [c3 k h1 h2, b2 k (by omega), a2 k (by omega)], fun Q => ?_⟩
    rw [gdT_s, ← Nat.add_assoc, ← c4 Q]
    refine (s98_49 ..).trans ?_
    simp (disch := omega) only [s98_50, s98_51, s98_54, s98_55, s98_58, s98_59, s98_62, s98_65, s98_66, s98_67, s98_70, s98_73, s98_74, s98_75, s98_78, s98_81, s98_82, z_lt_t, z_lt_f, z_le_t, z_le_f, z_lt0, z_ge0, z_cl, z_in, z_add, z_eq_f, z_ne0, z_00, z_10, z_01, z_11, z_neg1, z_nI_NONE, z_div, z_rem, z_rem2, sw_pu_s, sw_pu_n, true_and, and_true, true_or, or_true, if_true, if_false, not_true_eq_false, not_false_eq_true, a3, b3]
theorem k168L {d K : Nat} (hK : K ≤ 24) : ∀ n i acc (M : sw_Mem) (T : Tw) (π : Ps), i + n = K → acc ≤ 144 * i → IsM M 0 T → OKT T → 0 < T 2 → T 4 + n ≤ 999 → MPs π M → π.2 ≤ 24 →
    ∃ M', IsM M' 0 (itT T n) ∧ MPs (dyP π T n) M' ∧ (∀ k, k ≠ 0 → k ≠ 1 → M' k = M k) ∧ (∀ j, j ≠ 2 → M' 0 j = M 0 j) ∧ (∀ j, 1025 ≤ j → M' 1 j = M 1 j) ∧ ∀ Q, sw_WP (d + 5) 168 46 [.ref 0, .int (nI K), .int (nI acc), .int (nI i)] [] M Q = Q (some (.int (nI (acc + gdT T n)))) M' := by
  intro n
  induction n with
  | zero =>
    intro i acc M T π h hacc hV hT hL h4 hP ho
    obtain rfl : i = K := by omega
    refine ⟨M, hV, hP, fun _ _ _ => rfl, fun _ _ => rfl, fun _ _ => rfl, fun Q => ?_⟩
    refine (s168_46 ..).trans ?_
    simp (disch := omega) only [s168_47, s168_48, s168_51, s168_52, s168_55, s168_56, s168_57, s168_58, s168_61, s168_62, s168_63, s168_66, s168_69, s168_70, z_lt_t, z_lt_f, z_le_t, z_le_f, z_lt0, z_ge0, z_cl, z_in, z_add, z_eq_f, z_ne0, z_00, z_10, z_01, z_11, z_neg1, z_nI_NONE, z_div, z_rem, z_rem2, sw_pu_s, sw_pu_n, true_and, and_true, true_or, or_true, if_true, if_false, not_true_eq_false, not_false_eq_true, gdT, Nat.add_zero]
  | succ n ih =>
    intro i acc M T π h hacc hV hT hL h4 hP ho
    obtain ⟨M1, a0, a1, a2, a3, a4, a5⟩ := k158 (d := d + 3) hV hP ho
    obtain ⟨M2, b1, b2, b3⟩ := k165 (d := d + 2) a0 hT.1 hL hT.2.1 (by have := hT.2.2.1; omega) (by omega)
    have hg := gsT_le hT.1
    have hP2 : MPs (kpP π T) M2 := MPs_c (kpP_le ho) a1 (by rw [b2.1 0 (by omega)]) (fun j _ _ => b2.2 j (by omega))
    have e2 : psT T 2 = T 2 := psT_o _ (by omega) (by omega) (by omega) (by omega)
    obtain ⟨M3, c1, c2, c3, c4, c5, c6⟩ := ih (i + 1) (acc + gsT T) M2 (psT T) (kpP π T) (by omega) (by omega) b1 (OKT_ps hT (by omega)) (by rw [e2]; exact hL) (by rw [psT_4]; omega) hP2 (kpP_le ho)
    refine ⟨M3, c1, c2, fun k h1 h2 => by rw [c3 k h1 h2, b2.1 k h2, a2 k h1 h2], fun j hj => by rw [c4 j hj, b2.1 0 (by omega), a3 j hj], fun j hj => by rw [c5 j hj, b2.2 j (by omega), a4 j (by omega)], fun Q => ?_⟩
    rw [gdT_s, ← Nat.add_assoc, ← c6 Q]
    refine (s168_46 ..).trans ?_
    simp (disch := omega) only [s168_47, s168_48, s168_51, s168_52, s168_55, s168_56, s168_57, s168_58, s168_61, s168_62, s168_63, s168_66, s168_69, s168_70, z_lt_t, z_lt_f, z_le_t, z_le_f, z_lt0, z_ge0, z_cl, z_in, z_add, z_eq_f, z_ne0, z_00, z_10, z_01, z_11, z_neg1, z_nI_NONE, z_div, z_rem, z_rem2, sw_pu_s, sw_pu_n, true_and, and_true, true_or, or_true, if_true, if_false, not_true_eq_false, not_false_eq_true, a5, b3]
theorem itT_0 (T : Tw) (n : Nat) : itT T n 0 = T 0 := itT_o (by omega) (by omega) (by omega) (by omega) n T
theorem is1_p {n : Nat} (h : 0 < n) : is1 n = nI 1 := if_pos h
theorem is1_n {n : Nat} (h : ¬ 0 < n) : is1 n = nI 0 := if_neg h
theorem o_days (x : Int32) : Opp 98 168 [.int x] := by
  intro d T I π ρ τ ft sv θ M N hO hC hM
  have hV := hC.1
  have hT := hM.1.1
  have hi := hM.1.2
  have hW := hO.1.1
  have h9 := hO.1.2.2.1
  have h62 := fun d Q => k62 (d := d) (Q := Q) hV hW
  have hv := hV.1
  have g2 := hV.2.1.2.2.1
  have m4 := hT.z 4 (by omega)
  by_cases h0 : 0 < T 0
  case neg =>
    rw [is1_n h0] at hi
    refine Res_id hO hC hM (-1000002) (fun Q => ?_) (fun Q => ?_)
    · rw [c98]
      simp (disch := omega) only [s98_0, s98_1, s98_4, s98_7, s98_10, s98_12, z_lt_t, z_lt_f, z_le_t, z_le_f, z_lt0, z_ge0, z_cl, z_in, z_add, z_eq_f, z_ne0, z_00, z_10, z_01, z_11, z_neg1, z_nI_NONE, z_div, z_rem, z_rem2, sw_pu_s, sw_pu_n, true_and, and_true, true_or, or_true, if_true, if_false, not_true_eq_false, not_false_eq_true, h62, h0]
    · rw [c168]
      simp (disch := omega) only [s168_0, s168_1, s168_4, s168_7, s168_9, z_lt_t, z_lt_f, z_le_t, z_le_f, z_lt0, z_ge0, z_cl, z_in, z_add, z_eq_f, z_ne0, z_00, z_10, z_01, z_11, z_neg1, z_nI_NONE, z_div, z_rem, z_rem2, sw_pu_s, sw_pu_n, true_and, and_true, true_or, or_true, if_true, if_false, not_true_eq_false, not_false_eq_true, hi]
  rw [is1_p h0] at hi
  by_cases h1 : 1 ≤ x.toInt ∧ x.toInt ≤ 24
  case neg =>
    refine Res_id hO hC hM (-1000001) (fun Q => ?_) (fun Q => ?_)
    · rw [c98]
      by_cases b3 : x.toInt < 1
      · simp (disch := omega) only [s98_0, s98_1, s98_4, s98_7, s98_10, s98_12, s98_13, s98_14, s98_15, s98_18, s98_19, s98_21, s98_24, s98_26, z_lt_t, z_lt_f, z_le_t, z_le_f, z_lt0, z_ge0, z_cl, z_in, z_add, z_eq_f, z_ne0, z_00, z_10, z_01, z_11, z_neg1, z_nI_NONE, z_div, z_rem, z_rem2, sw_pu_s, sw_pu_n, true_and, and_true, true_or, or_true, if_true, if_false, not_true_eq_false, not_false_eq_true, h62, h0, z_ltI, z_gtI, z_leI, z_geI, z_lt0I, z_ge0I, z_gt0I, z_le0I, z_ibI, Int32.toInt_zero, ↓if_pos, ↓if_neg]
      · simp (disch := omega) only [s98_0, s98_1, s98_4, s98_7, s98_10, s98_12, s98_13, s98_14, s98_15, s98_18, s98_19, s98_21, s98_24, s98_26, z_lt_t, z_lt_f, z_le_t, z_le_f, z_lt0, z_ge0, z_cl, z_in, z_add, z_eq_f, z_ne0, z_00, z_10, z_01, z_11, z_neg1, z_nI_NONE, z_div, z_rem, z_rem2, sw_pu_s, sw_pu_n, true_and, and_true, true_or, or_true, if_true, if_false, not_true_eq_false, not_false_eq_true, h62, h0, z_ltI, z_gtI, z_leI, z_geI, z_lt0I, z_ge0I, z_gt0I, z_le0I, z_ibI, Int32.toInt_zero, ↓if_pos, ↓if_neg]
    · rw [c168]
      simp (disch := omega) only [s168_0, s168_1, s168_4, s168_7, s168_9, s168_10, s168_11, s168_12, s168_13, s168_16, s168_19, s168_22, s168_24, z_lt_t, z_lt_f, z_le_t, z_le_f, z_lt0, z_ge0, z_cl, z_in, z_add, z_eq_f, z_ne0, z_00, z_10, z_01, z_11, z_neg1, z_nI_NONE, z_div, z_rem, z_rem2, sw_pu_s, sw_pu_n, true_and, and_true, true_or, or_true, if_true, if_false, not_true_eq_false, not_false_eq_true, hi, k129, z_lT, z_xT, ↓if_pos, ↓if_neg]
  obtain ⟨n, hn, rfl⟩ := sw_ib_of (x := x) (n := 25) (by rw [z_ibI]; omega) (by omega)
  have hn1 : 1 ≤ n := by rw [nI_toInt (by omega)] at h1; omega
  by_cases h2 : T 4 + n ≤ 999
  case neg =>
    refine Res_id hO hC hM (-1000003) (fun Q => ?_) (fun Q => ?_)
    · rw [c98]
      simp (disch := omega) only [s98_0, s98_1, s98_4, s98_7, s98_10, s98_12, s98_13, s98_14, s98_15, s98_18, s98_19, s98_21, s98_24, s98_26, s98_27, s98_28, s98_31, s98_34, s98_35, s98_36, s98_39, s98_42, s98_44, z_lt_t, z_lt_f, z_le_t, z_le_f, z_lt0, z_ge0, z_cl, z_in, z_add, z_eq_f, z_ne0, z_00, z_10, z_01, z_11, z_neg1, z_nI_NONE, z_div, z_rem, z_rem2, sw_pu_s, sw_pu_n, true_and, and_true, true_or, or_true, if_true, if_false, not_true_eq_false, not_false_eq_true, h62, h0, g2]
    · rw [c168]
      simp (disch := omega) only [s168_0, s168_1, s168_4, s168_7, s168_9, s168_10, s168_11, s168_12, s168_13, s168_16, s168_19, s168_22, s168_24, s168_25, s168_26, s168_29, s168_30, s168_31, s168_32, s168_33, s168_36, s168_39, s168_41, z_lt_t, z_lt_f, z_le_t, z_le_f, z_lt0, z_ge0, z_cl, z_in, z_add, z_eq_f, z_ne0, z_00, z_10, z_01, z_11, z_neg1, z_nI_NONE, z_div, z_rem, z_rem2, sw_pu_s, sw_pu_n, true_and, and_true, true_or, or_true, if_true, if_false, not_true_eq_false, not_false_eq_true, hi, k129, z_lT, z_xT, z_TI, m4, ↓if_pos, ↓if_neg]
  obtain ⟨M', a1, a2, a3, a4⟩ := k98L (d := d + 14) (K := n) (by omega) n 0 0 M T π (by omega) (by omega) hV hO.1 h2 hC.2.2.1 hO.2.2.1.1
  obtain ⟨N', b1, b2, b3, b4, b5, b6⟩ := k168L (d := d + 14) (K := n) (by omega) n 0 0 N T π (by omega) (by omega) hT hO.1 (hO.1.2.2.2.1 h0) h2 hM.2.2.1 hO.2.2.1.1
  obtain ⟨o1, o2⟩ := dy_OK n T π hO.1 hO.2.2.1 h2
  refine ⟨itT T n, I, dyP π T n, ρ, τ, ft, sv, θ, nI (gdT T n), M', N', ⟨o1, OIm_T hO.2.1 (itT_0 T n), o2, hO.2.2.2⟩, ⟨RC_ac hC a1 a2 a3, fun k hk => a3 k (by omega) (by omega), fun Q => ?_⟩, RM_ac hM b1 (by rw [b4 1 (by omega), itT_0, hM.1.2]) b2 (fun k h1 h2 _ => b3 k h1 h2) (fun j _ _ => b4 j (by omega)) (fun j hj _ => b5 j hj), fun k hk => b3 k (by omega) (by omega), fun Q => ?_⟩
  · rw [c98]
    simp (disch := omega) only [s98_0, s98_1, s98_4, s98_7, s98_10, s98_12, s98_13, s98_14, s98_15, s98_18, s98_19, s98_21, s98_24, s98_26, s98_27, s98_28, s98_31, s98_34, s98_35, s98_36, s98_39, s98_42, s98_44, s98_45, s98_46, s98_47, s98_48, z_lt_t, z_lt_f, z_le_t, z_le_f, z_lt0, z_ge0, z_cl, z_in, z_add, z_eq_f, z_ne0, z_00, z_10, z_01, z_11, z_neg1, z_nI_NONE, z_div, z_rem, z_rem2, sw_pu_s, sw_pu_n, true_and, and_true, true_or, or_true, if_true, if_false, not_true_eq_false, not_false_eq_true, h62, h0, g2]
    rw [a4, Nat.zero_add]
  · rw [c168]
    simp (disch := omega) only [s168_0, s168_1, s168_4, s168_7, s168_9, s168_10, s168_11, s168_12, s168_13, s168_16, s168_19, s168_22, s168_24, s168_25, s168_26, s168_29, s168_30, s168_31, s168_32, s168_33, s168_36, s168_39, s168_41, s168_42, s168_43, s168_44, s168_45, z_lt_t, z_lt_f, z_le_t, z_le_f, z_lt0, z_ge0, z_cl, z_in, z_add, z_eq_f, z_ne0, z_00, z_10, z_01, z_11, z_neg1, z_nI_NONE, z_div, z_rem, z_rem2, sw_pu_s, sw_pu_n, true_and, and_true, true_or, or_true, if_true, if_false, not_true_eq_false, not_false_eq_true, hi, k129, z_lT, z_xT, z_TI, m4, ↓if_pos, ↓if_neg]
    rw [b6, Nat.zero_add]
end OPF
