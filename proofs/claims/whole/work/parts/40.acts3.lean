section WFU
variable {T : Tw}
theorem WF_fu (hW : WF T) {i x : Nat} (hi : (9 ≤ i ∧ i < 13) ∨ (29 ≤ i ∧ i < 33)) (hx : x ≤ 9) : WF (upT T i x) := by
  obtain ⟨w0, w1, w2, w3, w4, wr, wb, wi⟩ := hW
  have e : ∀ j, j ≠ i → upT T i x j = T j := fun j hj => upT_n _ _ hj
  have e' : ∀ j, T j ≤ 9 → upT T i x j ≤ 9 := fun j hj => by
    by_cases c : j = i
    · rw [c, upT_s]; exact hx
    · rw [e j c]; exact hj
  refine ⟨by rw [e _ (by omega)]; exact w0, by rw [e _ (by omega)]; exact w1, by rw [e _ (by omega)]; exact w2, by rw [e _ (by omega)]; exact w3, by rw [e _ (by omega)]; exact w4, fun q hq => ?_, fun b hb => ?_, fun q hq p hp h h4 => ?_⟩
  · rw [e _ (by omega)] at hq
    obtain ⟨y1, y2, y3, y4, y5, y6⟩ := wr q hq
    rw [e (21 + q) (by omega), e (37 + q) (by omega), e 0 (by omega)]
    exact ⟨y1, y2, e' _ y3, e' _ y4, e' _ y5, y6⟩
  · rw [e _ (by omega)] at hb
    obtain ⟨z1, z2, z3⟩ := wb b hb
    exact ⟨e' _ z1, e' _ z2, e' _ z3⟩
  · rw [e _ (by omega)] at hq hp
    rw [e (37 + q) (by omega)] at h h4
    rw [e (37 + p) (by omega)] at h
    exact wi q hq p hp h h4
theorem WF_lie (hW : WF T) {r b : Nat} (hr : r < T 1) (hb : b = 4 ∨ (b < T 0 ∧ ∀ q, q < T 1 → T (37 + q) ≠ b)) : WF (upT T (37 + r) b) := by
  obtain ⟨w0, w1, w2, w3, w4, wr, wb, wi⟩ := hW
  have e : ∀ j, j ≠ 37 + r → upT T (37 + r) b j = T j := fun j hj => upT_n _ _ hj
  refine ⟨by rw [e _ (by omega)]; exact w0, by rw [e _ (by omega)]; exact w1, by rw [e _ (by omega)]; exact w2, by rw [e _ (by omega)]; exact w3, by rw [e _ (by omega)]; exact w4, fun q hq => ?_, fun c hc => ?_, fun q hq p hp h h4 => ?_⟩
  · rw [e _ (by omega)] at hq
    obtain ⟨y1, y2, y3, y4, y5, y6⟩ := wr q hq
    rw [e (21 + q) (by omega), e (25 + q) (by omega), e (29 + q) (by omega), e (33 + q) (by omega), e 0 (by omega)]
    refine ⟨y1, y2, y3, y4, y5, ?_⟩
    by_cases h : q = r
    · subst h
      rw [upT_s]
      rcases hb with hb | hb
      · exact Or.inl hb
      · exact Or.inr hb.1
    · rw [e (37 + q) (by omega)]
      exact y6
  · rw [e _ (by omega)] at hc
    rw [e (5 + c) (by omega), e (9 + c) (by omega), e (13 + c) (by omega)]
    exact wb c hc
  · rw [e _ (by omega)] at hq hp
    by_cases h1 : q = r
    · by_cases h2 : p = r
      · rw [h1, h2]
      · subst h1
        rw [upT_s] at h h4
        rw [e (37 + p) (by omega)] at h
        rcases hb with hb | hb
        · exact absurd hb h4
        · exact absurd h.symm (hb.2 p hp)
    · rw [e (37 + q) (by omega)] at h h4
      by_cases h2 : p = r
      · subst h2
        rw [upT_s] at h
        rcases hb with hb | hb
        · exact absurd (h.trans hb) h4
        · exact absurd h (hb.2 q hq)
      · rw [e (37 + p) (by omega)] at h
        exact wi q hq p hp h h4
theorem OKT_up (h : OKT T) {i x : Nat} (hW : WF (upT T i x)) (hi : (9 ≤ i ∧ i < 13) ∨ (29 ≤ i ∧ i < 33) ∨ (37 ≤ i ∧ i < 41)) : OKT (upT T i x) := by
  obtain ⟨a1, a2, a3, a4, a5⟩ := h
  have w0 := a1.1
  have e : ∀ j, j ≠ i → upT T i x j = T j := fun j hj => upT_n _ _ hj
  refine ⟨hW, fun b hb => ?_, by rw [e _ (by omega)]; exact a3, by rw [e 0 (by omega), e 2 (by omega)]; exact a4, by rw [e 0 (by omega), e 1 (by omega)]; exact a5⟩
  rw [e 0 (by omega)] at hb
  rw [e (17 + b) (by omega), e 4 (by omega)]
  exact a2 b hb
theorem Sta_up (hW : WF T) {i x : Nat} (hi : (9 ≤ i ∧ i < 13) ∨ (29 ≤ i ∧ i < 33) ∨ (37 ≤ i ∧ i < 41)) : Sta T (upT T i x) := by
  have w0 := hW.1
  have w1 := hW.2.1
  have e : ∀ j, j ≠ i → T j = upT T i x j := fun j hj => (upT_n _ _ hj).symm
  refine ⟨e _ (by omega), e _ (by omega), e _ (by omega), e _ (by omega), fun r hr => ?_, fun b hb => ?_⟩
  · rw [← e 1 (by omega)] at hr
    exact ⟨e _ (by omega), e _ (by omega), e _ (by omega)⟩
  · rw [← e 0 (by omega)] at hb
    exact ⟨e _ (by omega), e _ (by omega)⟩
theorem onF_4 {b : Nat} : ∀ n r, r + n ≤ 4 → onF T b n r = 4 → ∀ q, r ≤ q → q < r + n → T (37 + q) ≠ b := by
  intro n
  induction n with
  | zero => intro r _ _ q h1 h2; omega
  | succ n ih =>
    intro r hr h q h1 h2
    rw [onF_s] at h
    by_cases c : T (37 + r) = b
    · rw [if_pos c] at h
      omega
    · rw [if_neg c] at h
      by_cases e : q = r
      · rw [e]
        exact c
      · exact ih (r + 1) (by omega) h q (by omega) (by omega)
theorem onB_4 {b : Nat} (w1 : T 1 ≤ 4) (h : onB T b = 4) : ∀ q, q < T 1 → T (37 + q) ≠ b := fun q hq => onF_4 (T 1) 0 (by omega) h q (by omega) (by omega)
end WFU
theorem onF_le (T : Tw) (b : Nat) : ∀ n r, r + n ≤ 4 → onF T b n r ≤ 4 := by
  intro n
  induction n with
  | zero => intro r _; exact Nat.le_refl 4
  | succ n ih =>
    intro r h
    rw [onF_s]
    split
    · omega
    · exact ih (r + 1) (by omega)
theorem onB_le {T : Tw} (w1 : T 1 ≤ 4) (b : Nat) : onB T b ≤ 4 := onF_le T b (T 1) 0 (by omega)
section OPG
variable {T : Tw} {I : Nat → Tw} {π : Ps} {ρ : Rw} {τ : Tp} {ft sv : Int32} {θ : Tc} {M N : sw_Mem} {d c m : Nat} {as : List Value}
/-- an act on the town: what is kept, and then one place changes -/
theorem Res_act {i x : Nat} {q j : Nat} {y : Int32} (hO : OK T I π ρ τ θ) (hC : RC T I π ρ τ ft sv θ M) (hM : RM T I π ρ τ ft sv θ N) (hq : 34 ≤ q ∧ q < 41) (hi : (9 ≤ i ∧ i < 13) ∨ (29 ≤ i ∧ i < 33) ∨ (37 ≤ i ∧ i < 41)) (hW : WF (upT T i x)) (hV : ∀ M, IsV M 34 T → IsV (sw_up M q j y) 34 (upT T i x)) (r : Int32)
    (h1 : ∀ M1 Q, (∀ Q, sw_Cal (d + 19) 0 [.ref 56, .ref 34] M Q = Q none M1) → IsV M1 34 T → IsV (sw_up M1 q j y) 34 (upT T i x) → sw_Cal (d + 20) c (.ref 11 :: as) M Q = Q (some (.int r)) (sw_up M1 q j y))
    (h2 : ∀ N1 Q, (∀ Q, sw_Cal (d + 19) 158 [.ref 0] N Q = Q none N1) → IsM N1 0 T → IsM (sw_up N1 1 i (nI x)) 0 (upT T i x) → sw_Cal (d + 20) m (.ref 0 :: as) N Q = Q (some (.int r)) (sw_up N1 1 i (nI x))) : Res d c m as M N := by
  have hT := hO.1
  have hV0 := hC.1
  obtain ⟨M1, a1, a2, a3⟩ := k0 (d := d + 17) hV0 hT.1.1 hT.1.2.1 hC.2.2.1 hO.2.2.1.1
  obtain ⟨N1, b0, b1, b2, b3, b4, b5⟩ := k158 (d := d + 17) hM.1.1 hM.2.2.1 hO.2.2.1.1
  have hV1 : IsV M1 34 T := IsV_c hV0 (fun k _ _ => a2 k (by omega))
  have hU := IsM.up b0 i x
  rw [Nat.zero_add] at hU
  have e0 : upT T i x 0 = T 0 := upT_n _ _ (by omega)
  have hk := kpP_le (T := T) hO.2.2.1.1
  refine ⟨upT T i x, I, kpP π T, ρ, τ, ft, sv, θ, r, sw_up M1 q j y, sw_up N1 1 i (nI x), ⟨OKT_up hT hW hi, OIm_T hO.2.1 e0, OPs_kp hO.2.2.1 hT (Sta_up hT.1 hi), hO.2.2.2⟩, ⟨RC_ac hC (hV M1 hV1) (CPs_c a1 (fun k _ _ => z_up_n _ _ (by omega))) (fun k _ _ => ?_), fun k hk => ?_, fun Q => h1 M1 Q a3 hV1 (hV M1 hV1)⟩, RM_ac hM hU ?_ (MPs_c hk b1 (by rw [z_up_n _ _ (by omega)]) (fun j _ _ => z_up_j _ _ (by omega))) (fun k h0 h1 _ => ?_) (fun j _ _ => ?_) (fun j _ _ => ?_), fun k hk => ?_, fun Q => h2 N1 Q b5 b0 hU⟩
  · rw [z_up_n _ _ (by omega), a2 k (by omega)]
  · rw [z_up_n _ _ (by omega), a2 k (by omega)]
  · rw [z_up_n _ _ (by omega), b3 1 (by omega), e0]
    exact hM.1.2
  · rw [z_up_n _ _ h1, b2 k h0 h1]
  · rw [z_up_n _ _ (by omega), b3 j (by omega)]
  · rw [z_up_j _ _ (by omega), b4 j (by omega)]
  · rw [z_up_n _ _ (by omega), b2 k (by omega) (by omega)]
theorem o_wed (x y : Int32) : Opp 99 169 [.int x, .int y] := by
  intro d T I π ρ τ ft sv θ M N hO hC hM
  have hV := hC.1
  have hT := hM.1.1
  have hW := hO.1.1
  have w0 := hW.1
  have w1 := hW.2.1
  have h63 := fun d Q => k63 (d := d) (Q := Q) hV hW x
  have h64 := fun d Q => k64 (d := d) (Q := Q) hV hW y
  have h160 := fun d Q => k160 (d := d) (Q := Q) hT hW x
  have h161 := fun d Q => k161 (d := d) (Q := Q) hT hW y
  by_cases b : sw_ib x (T 1)
  case neg =>
    have b := eq_false b
    refine Res_id hO hC hM (-1000001) (fun Q => ?_) (fun Q => ?_)
    · rw [c99]
      simp (disch := omega) only [s99_0, s99_1, s99_4, s99_5, s99_8, s99_11, s99_12, s99_15, s99_16, s99_19, s99_22, s99_24, z_lt_t, z_lt_f, z_le_t, z_le_f, z_lt0, z_ge0, z_cl, z_in, z_add, z_eq_f, z_ne0, z_00, z_10, z_01, z_11, z_neg1, z_nI_NONE, z_div, z_rem, z_rem2, sw_pu_s, sw_pu_n, true_and, and_true, true_or, or_true, if_true, if_false, not_true_eq_false, not_false_eq_true, h63, b]
    · rw [c169]
      simp (disch := omega) only [s169_0, s169_1, s169_2, s169_5, s169_8, s169_9, s169_10, s169_13, s169_16, s169_18, z_lt_t, z_lt_f, z_le_t, z_le_f, z_lt0, z_ge0, z_cl, z_in, z_add, z_eq_f, z_ne0, z_00, z_10, z_01, z_11, z_neg1, z_nI_NONE, z_div, z_rem, z_rem2, sw_pu_s, sw_pu_n, true_and, and_true, true_or, or_true, if_true, if_false, not_true_eq_false, not_false_eq_true, h160, b]
  by_cases b2 : sw_ib y (T 0)
  case neg =>
    have b2 := eq_false b2
    refine Res_id hO hC hM (-1000001) (fun Q => ?_) (fun Q => ?_)
    · rw [c99]
      simp (disch := omega) only [s99_0, s99_1, s99_4, s99_5, s99_8, s99_11, s99_12, s99_15, s99_16, s99_19, s99_22, s99_24, z_lt_t, z_lt_f, z_le_t, z_le_f, z_lt0, z_ge0, z_cl, z_in, z_add, z_eq_f, z_ne0, z_00, z_10, z_01, z_11, z_neg1, z_nI_NONE, z_div, z_rem, z_rem2, sw_pu_s, sw_pu_n, true_and, and_true, true_or, or_true, if_true, if_false, not_true_eq_false, not_false_eq_true, h63, h64, eq_true b, b2]
    · rw [c169]
      simp (disch := omega) only [s169_0, s169_1, s169_2, s169_5, s169_8, s169_9, s169_10, s169_13, s169_16, s169_18, z_lt_t, z_lt_f, z_le_t, z_le_f, z_lt0, z_ge0, z_cl, z_in, z_add, z_eq_f, z_ne0, z_00, z_10, z_01, z_11, z_neg1, z_nI_NONE, z_div, z_rem, z_rem2, sw_pu_s, sw_pu_n, true_and, and_true, true_or, or_true, if_true, if_false, not_true_eq_false, not_false_eq_true, h160, h161, eq_true b, b2]
  have b1 := eq_true b
  have b3 := eq_true b2
  simp only [b1, if_true] at h63 h160
  simp only [b3, if_true] at h64 h161
  obtain ⟨r, hr, rfl⟩ := sw_ib_of b (by omega)
  obtain ⟨e, he, rfl⟩ := sw_ib_of b2 (by omega)
  have h66 := fun d Q => k66 (d := d) (Q := Q) hV hW (show e < 4 by omega)
  have h162 := fun d Q => k162 (d := d) (Q := Q) hT (by omega) hW (show e < 4 by omega)
  have hle := onB_le (T := T) w1 e
  by_cases h4 : onB T e = 4
  case neg =>
    refine Res_id hO hC hM (-1000002) (fun Q => ?_) (fun Q => ?_)
    · rw [c99]
      simp (disch := omega) only [s99_0, s99_1, s99_4, s99_5, s99_8, s99_11, s99_12, s99_15, s99_16, s99_19, s99_22, s99_24, s99_25, s99_26, s99_29, s99_30, s99_33, s99_35, s99_38, s99_40, z_lt_t, z_lt_f, z_le_t, z_le_f, z_lt0, z_ge0, z_cl, z_in, z_add, z_eq_f, z_ne0, z_00, z_10, z_01, z_11, z_neg1, z_nI_NONE, z_div, z_rem, z_rem2, sw_pu_s, sw_pu_n, true_and, and_true, true_or, or_true, if_true, if_false, not_true_eq_false, not_false_eq_true, h63, h64, h66, z_bn, h4]
    · rw [c169]
      simp (disch := omega) only [s169_0, s169_1, s169_2, s169_5, s169_8, s169_9, s169_10, s169_13, s169_16, s169_18, s169_19, s169_20, s169_21, s169_22, s169_25, s169_27, s169_30, s169_32, z_lt_t, z_lt_f, z_le_t, z_le_f, z_lt0, z_ge0, z_cl, z_in, z_add, z_eq_f, z_ne0, z_00, z_10, z_01, z_11, z_neg1, z_nI_NONE, z_div, z_rem, z_rem2, sw_pu_s, sw_pu_n, true_and, and_true, true_or, or_true, if_true, if_false, not_true_eq_false, not_false_eq_true, h160, h161, h162, z_bn, h4]
  have hfree := onB_4 w1 h4
  have hW' := WF_lie hW hr (Or.inr ⟨he, hfree⟩)
  have e0 : upT T (37 + r) e 0 = T 0 := upT_n _ _ (by omega)
  have e1 : upT T (37 + r) e 1 = T 1 := upT_n _ _ (by omega)
  refine Res_act hO hC hM (q := 39) (j := r) (y := bn e) (i := 37 + r) (x := e) (by omega) (by omega) hW' (fun M hM => IsV_lie hM w0 w1 hr e) (nI (grT (upT T (37 + r) e) r e)) (fun M1 Q hk hV1 hV2 => ?_) (fun N1 Q hk hM1 hM2 => ?_)
  · have h69 := fun d Q => k69 (d := d) (Q := Q) hV2 hW' (show r < upT T (37 + r) e 1 by omega) (show e < upT T (37 + r) e 0 by omega)
    rw [bn_n (show e ≠ 4 by omega)] at h69 ⊢
    rw [c99]
    simp (disch := omega) only [s99_0, s99_1, s99_4, s99_5, s99_8, s99_11, s99_12, s99_15, s99_16, s99_19, s99_22, s99_24, s99_25, s99_26, s99_29, s99_30, s99_33, s99_35, s99_38, s99_40, s99_41, s99_42, s99_45, s99_46, s99_49, s99_52, s99_53, s99_56, s99_59, s99_60, s99_61, s99_62, s99_63, s99_66, s99_67, s99_68, s99_71, z_lt_t, z_lt_f, z_le_t, z_le_f, z_lt0, z_ge0, z_cl, z_in, z_add, z_eq_f, z_ne0, z_00, z_10, z_01, z_11, z_neg1, z_nI_NONE, z_div, z_rem, z_rem2, sw_pu_s, sw_pu_n, true_and, and_true, true_or, or_true, if_true, if_false, not_true_eq_false, not_false_eq_true, h63, h64, h66, z_bn, h4, hk, h69]
  · have h163 := fun d Q => k163 (d := d) (Q := Q) hM2 (by omega) hW' (show r < upT T (37 + r) e 1 by omega) (show e < upT T (37 + r) e 0 by omega)
    rw [c169]
    simp (disch := omega) only [s169_0, s169_1, s169_2, s169_5, s169_8, s169_9, s169_10, s169_13, s169_16, s169_18, s169_19, s169_20, s169_21, s169_22, s169_25, s169_27, s169_30, s169_32, s169_33, s169_34, s169_37, s169_38, s169_41, s169_43, s169_44, s169_45, s169_46, s169_47, s169_48, s169_49, s169_50, s169_51, s169_54, z_lt_t, z_lt_f, z_le_t, z_le_f, z_lt0, z_ge0, z_cl, z_in, z_add, z_eq_f, z_ne0, z_00, z_10, z_01, z_11, z_neg1, z_nI_NONE, z_div, z_rem, z_rem2, sw_pu_s, sw_pu_n, true_and, and_true, true_or, or_true, if_true, if_false, not_true_eq_false, not_false_eq_true, h160, h161, h162, z_bn, h4, hk, h163]
theorem o_part (x : Int32) : Opp 100 170 [.int x] := by
  intro d T I π ρ τ ft sv θ M N hO hC hM
  have hV := hC.1
  have hT := hM.1.1
  have hW := hO.1.1
  have w0 := hW.1
  have w1 := hW.2.1
  have h63 := fun d Q => k63 (d := d) (Q := Q) hV hW x
  have h160 := fun d Q => k160 (d := d) (Q := Q) hT hW x
  by_cases b : sw_ib x (T 1)
  case neg =>
    have b := eq_false b
    refine Res_id hO hC hM (-1000001) (fun Q => ?_) (fun Q => ?_)
    · rw [c100]
      simp (disch := omega) only [s100_0, s100_1, s100_4, s100_5, s100_8, s100_11, s100_13, z_lt_t, z_lt_f, z_le_t, z_le_f, z_lt0, z_ge0, z_cl, z_in, z_add, z_eq_f, z_ne0, z_00, z_10, z_01, z_11, z_neg1, z_nI_NONE, z_div, z_rem, z_rem2, sw_pu_s, sw_pu_n, true_and, and_true, true_or, or_true, if_true, if_false, not_true_eq_false, not_false_eq_true, h63, b]
    · rw [c170]
      simp (disch := omega) only [s170_0, s170_1, s170_2, s170_5, s170_8, s170_10, z_lt_t, z_lt_f, z_le_t, z_le_f, z_lt0, z_ge0, z_cl, z_in, z_add, z_eq_f, z_ne0, z_00, z_10, z_01, z_11, z_neg1, z_nI_NONE, z_div, z_rem, z_rem2, sw_pu_s, sw_pu_n, true_and, and_true, true_or, or_true, if_true, if_false, not_true_eq_false, not_false_eq_true, h160, b]
  have b1 := eq_true b
  simp only [b1, if_true] at h63 h160
  obtain ⟨r, hr, rfl⟩ := sw_ib_of b (by omega)
  have r5 := (hV.2.2.1 r hr).2.2.2.2
  have m5 := hT.z (37 + r) (by omega)
  have y6 := (hW.2.2.2.2.2.1 r hr).2.2.2.2.2
  by_cases h4 : T (37 + r) = 4
  · rw [h4] at r5 m5
    rw [bn_4] at r5
    refine Res_id hO hC hM (-1000002) (fun Q => ?_) (fun Q => ?_)
    · rw [c100]
      simp (disch := omega) only [s100_0, s100_1, s100_4, s100_5, s100_8, s100_11, s100_13, s100_14, s100_15, s100_18, s100_21, s100_22, s100_23, s100_24, s100_25, s100_27, s100_30, s100_32, z_lt_t, z_lt_f, z_le_t, z_le_f, z_lt0, z_ge0, z_cl, z_in, z_add, z_eq_f, z_ne0, z_00, z_10, z_01, z_11, z_neg1, z_nI_NONE, z_div, z_rem, z_rem2, sw_pu_s, sw_pu_n, true_and, and_true, true_or, or_true, if_true, if_false, not_true_eq_false, not_false_eq_true, h63, r5]
    · rw [c170]
      simp (disch := omega) only [s170_0, s170_1, s170_2, s170_5, s170_8, s170_10, s170_11, s170_12, s170_15, s170_17, s170_18, s170_19, s170_20, s170_21, s170_22, s170_23, s170_26, s170_28, z_lt_t, z_lt_f, z_le_t, z_le_f, z_lt0, z_ge0, z_cl, z_in, z_add, z_eq_f, z_ne0, z_00, z_10, z_01, z_11, z_neg1, z_nI_NONE, z_div, z_rem, z_rem2, sw_pu_s, sw_pu_n, true_and, and_true, true_or, or_true, if_true, if_false, not_true_eq_false, not_false_eq_true, h160, m5]
  have hW' := WF_lie hW hr (Or.inl rfl)
  rw [bn_n h4] at r5
  refine Res_act hO hC hM (q := 39) (j := r) (y := bn 4) (i := 37 + r) (x := 4) (by omega) (by omega) hW' (fun M hM => IsV_lie hM w0 w1 hr 4) (nI (T (37 + r))) (fun M1 Q hk hV1 hV2 => ?_) (fun N1 Q hk hM1 hM2 => ?_)
  · rw [bn_4, c100]
    simp (disch := omega) only [s100_0, s100_1, s100_4, s100_5, s100_8, s100_11, s100_13, s100_14, s100_15, s100_18, s100_21, s100_22, s100_23, s100_24, s100_25, s100_27, s100_30, s100_32, s100_33, s100_34, s100_37, s100_38, s100_41, s100_44, s100_45, s100_48, s100_51, s100_52, s100_54, s100_55, s100_56, z_lt_t, z_lt_f, z_le_t, z_le_f, z_lt0, z_ge0, z_cl, z_in, z_add, z_eq_f, z_ne0, z_00, z_10, z_01, z_11, z_neg1, z_nI_NONE, z_div, z_rem, z_rem2, sw_pu_s, sw_pu_n, true_and, and_true, true_or, or_true, if_true, if_false, not_true_eq_false, not_false_eq_true, h63, r5, hk]
  · rw [c170]
    simp (disch := omega) only [s170_0, s170_1, s170_2, s170_5, s170_8, s170_10, s170_11, s170_12, s170_15, s170_17, s170_18, s170_19, s170_20, s170_21, s170_22, s170_23, s170_26, s170_28, s170_29, s170_30, s170_33, s170_34, s170_37, s170_39, s170_40, s170_41, s170_42, s170_43, s170_44, z_lt_t, z_lt_f, z_le_t, z_le_f, z_lt0, z_ge0, z_cl, z_in, z_add, z_eq_f, z_ne0, z_00, z_10, z_01, z_11, z_neg1, z_nI_NONE, z_div, z_rem, z_rem2, sw_pu_s, sw_pu_n, true_and, and_true, true_or, or_true, if_true, if_false, not_true_eq_false, not_false_eq_true, h160, m5, hk]
theorem z_x4 {x : Int32} (h : 0 ≤ x.toInt) : (x - nI 4).toInt = x.toInt - 4 := by
  rw [Int32.toInt_sub, nI_toInt (by omega)]
  have := Int32.toInt_lt x
  apply Int.bmod_eq_of_le <;> omega
theorem o_dress (x : Int32) : Opp 101 172 [.int x] := by
  intro d T I π ρ τ ft sv θ M N hO hC hM
  have hV := hC.1
  have hT := hM.1.1
  have hW := hO.1.1
  have hv := hV.1
  have w0 := hW.1
  have w1 := hW.2.1
  by_cases a : 0 ≤ x.toInt ∧ x.toInt < (T 1 : Int)
  · obtain ⟨r, hr, rfl⟩ := sw_ib_of (x := x) (n := T 1) (by rw [z_ibI]; omega) (by omega)
    have h65 := fun d Q => k65a (d := d) (Q := Q) hV hW (show r < 4 by omega)
    have h160 := fun d Q => k160 (d := d) (Q := Q) hT hW (nI r)
    have y4 := (hW.2.2.2.2.2.1 r hr).2.2.2.1
    refine Res_act hO hC hM (q := 36) (j := r) (y := nI 9) (i := 29 + r) (x := 9) (by omega) (by omega) (WF_fu hW (by omega) (Nat.le_refl 9)) (fun M hM => IsV_fr hM w0 w1 hr 9) (nI (T (29 + r))) (fun M1 Q hk hV1 hV2 => ?_) (fun N1 Q hk hM1 hM2 => ?_)
    · have r2 := (hV1.2.2.1 r hr).2.1
      rw [c101]
      simp (disch := omega) only [s101_0, s101_1, s101_4, s101_5, s101_8, s101_11, s101_13, s101_14, s101_15, s101_18, s101_19, s101_22, s101_25, s101_26, s101_29, s101_32, s101_33, s101_34, s101_35, s101_36, s101_39, s101_42, s101_43, s101_45, s101_46, s101_47, z_lt_t, z_lt_f, z_le_t, z_le_f, z_lt0, z_ge0, z_cl, z_in, z_add, z_eq_f, z_ne0, z_00, z_10, z_01, z_11, z_neg1, z_nI_NONE, z_div, z_rem, z_rem2, sw_pu_s, sw_pu_n, true_and, and_true, true_or, or_true, if_true, if_false, not_true_eq_false, not_false_eq_true, h65, hr, hk, r2]
    · have m2 := hM1.z (29 + r) (by omega)
      rw [c172]
      simp (disch := omega) only [s172_0, s172_1, s172_2, s172_5, s172_6, s172_7, s172_9, s172_12, s172_14, s172_15, s172_16, s172_19, s172_20, s172_23, s172_24, s172_25, s172_26, s172_27, s172_30, s172_31, s172_33, s172_34, s172_35, z_lt_t, z_lt_f, z_le_t, z_le_f, z_lt0, z_ge0, z_cl, z_in, z_add, z_eq_f, z_ne0, z_00, z_10, z_01, z_11, z_neg1, z_nI_NONE, z_div, z_rem, z_rem2, sw_pu_s, sw_pu_n, true_and, and_true, true_or, or_true, if_true, if_false, not_true_eq_false, not_false_eq_true, c171, s171_0, s171_1, s171_2, s171_5, s171_8, s171_10, s171_11, s171_12, s171_15, s171_16, s171_17, s171_18, s171_19, s171_22, s171_25, s171_27, s171_28, s171_29, s171_30, s171_31, s171_34, s171_36, h160, z_ibt, hk, m2]
  by_cases a2 : 4 ≤ x.toInt ∧ x.toInt < 4 + (T 0 : Int)
  · obtain ⟨q, hq, rfl⟩ := sw_ib_of (x := x) (n := 8) (by rw [z_ibI]; omega) (by omega)
    rw [nI_toInt (by omega)] at a a2
    obtain ⟨b, rfl⟩ : ∃ b, q = 4 + b := ⟨q - 4, by omega⟩
    have h65 := fun d Q => k65b (d := d) (Q := Q) hV hW (show b < 4 by omega)
    have h160 := fun d Q => k160 (d := d) (Q := Q) hT hW (nI (4 + b))
    have h161 := fun d Q => k161 (d := d) (Q := Q) hT hW (nI b)
    have hb : b < T 0 := by omega
    refine Res_act hO hC hM (q := 36) (j := 4 + b) (y := nI 9) (i := 9 + b) (x := 9) (by omega) (by omega) (WF_fu hW (by omega) (Nat.le_refl 9)) (fun M hM => IsV_fb hM w0 w1 hb 9) (nI (T (9 + b))) (fun M1 Q hk hV1 hV2 => ?_) (fun N1 Q hk hM1 hM2 => ?_)
    · have r2 := (hV1.2.2.2 b hb).2.1
      rw [c101]
      simp (disch := omega) only [s101_0, s101_1, s101_4, s101_5, s101_8, s101_11, s101_13, s101_14, s101_15, s101_18, s101_19, s101_22, s101_25, s101_26, s101_29, s101_32, s101_33, s101_34, s101_35, s101_36, s101_39, s101_42, s101_43, s101_45, s101_46, s101_47, z_lt_t, z_lt_f, z_le_t, z_le_f, z_lt0, z_ge0, z_cl, z_in, z_add, z_eq_f, z_ne0, z_00, z_10, z_01, z_11, z_neg1, z_nI_NONE, z_div, z_rem, z_rem2, sw_pu_s, sw_pu_n, true_and, and_true, true_or, or_true, if_true, if_false, not_true_eq_false, not_false_eq_true, h65, hb, hk, r2]
    · have m2 := hM1.z (9 + b) (by omega)
      rw [c172]
      simp (disch := omega) only [s172_0, s172_1, s172_2, s172_5, s172_6, s172_7, s172_9, s172_12, s172_14, s172_15, s172_16, s172_19, s172_20, s172_23, s172_24, s172_25, s172_26, s172_27, s172_30, s172_31, s172_33, s172_34, s172_35, z_lt_t, z_lt_f, z_le_t, z_le_f, z_lt0, z_ge0, z_cl, z_in, z_add, z_eq_f, z_ne0, z_00, z_10, z_01, z_11, z_neg1, z_nI_NONE, z_div, z_rem, z_rem2, sw_pu_s, sw_pu_n, true_and, and_true, true_or, or_true, if_true, if_false, not_true_eq_false, not_false_eq_true, c171, s171_0, s171_1, s171_2, s171_5, s171_8, s171_10, s171_11, s171_12, s171_15, s171_16, s171_17, s171_18, s171_19, s171_22, s171_25, s171_27, s171_28, s171_29, s171_30, s171_31, s171_34, s171_36, h160, h161, z_ibt, z_ibf, z_sub, Nat.add_sub_cancel_left, show 9 + (4 + b) - 4 = 9 + b by omega, hk, m2]
  have h160 := fun d Q => k160 (d := d) (Q := Q) hT hW x
  have h161 := fun d Q => k161 (d := d) (Q := Q) hT hW (x - nI 4)
  have h63 := fun d Q => k63 (d := d) (Q := Q) hV hW x
  have h64 := fun d Q => k64 (d := d) (Q := Q) hV hW (x - nI 4)
  have b1 : sw_ib x (T 1) = False := by rw [z_ibI]; exact eq_false a
  have b2 : sw_ib (x - nI 4) (T 0) = False := by
    rw [z_ibI]
    refine eq_false (fun h => ?_)
    by_cases h0 : 0 ≤ x.toInt
    · rw [z_x4 h0] at h
      omega
    · have e : (x - nI 4).toInt = x.toInt - 4 ∨ (x - nI 4).toInt = x.toInt - 4 + 2 ^ 32 := by
        rw [Int32.toInt_sub, nI_toInt (by omega)]
        have := Int32.le_toInt x
        by_cases q : -2 ^ 31 ≤ x.toInt - 4
        · left
          apply Int.bmod_eq_of_le <;> omega
        · right
          rw [Int.bmod_def]
          omega
      have := Int32.le_toInt x
      omega
  refine Res_id hO hC hM (-1000001) (fun Q => ?_) (fun Q => ?_)
  · rw [c101]
    by_cases h0 : x.toInt < 4
    · simp (disch := omega) only [s101_0, s101_1, s101_4, s101_5, s101_8, s101_11, s101_13, z_lt_t, z_lt_f, z_le_t, z_le_f, z_lt0, z_ge0, z_cl, z_in, z_add, z_eq_f, z_ne0, z_00, z_10, z_01, z_11, z_neg1, z_nI_NONE, z_div, z_rem, z_rem2, sw_pu_s, sw_pu_n, true_and, and_true, true_or, or_true, if_true, if_false, not_true_eq_false, not_false_eq_true, c65, s65_0, s65_1, s65_2, s65_5, s65_6, s65_7, s65_10, s65_13, s65_14, s65_15, s65_16, s65_17, s65_20, hv, z_ltI, z_gtI, z_leI, z_geI, z_lt0I, z_ge0I, z_gt0I, z_le0I, z_ibI, Int32.toInt_zero, h63, b1, ↓if_pos, ↓if_neg]
    · simp (disch := omega) only [s101_0, s101_1, s101_4, s101_5, s101_8, s101_11, s101_13, z_lt_t, z_lt_f, z_le_t, z_le_f, z_lt0, z_ge0, z_cl, z_in, z_add, z_eq_f, z_ne0, z_00, z_10, z_01, z_11, z_neg1, z_nI_NONE, z_div, z_rem, z_rem2, sw_pu_s, sw_pu_n, true_and, and_true, true_or, or_true, if_true, if_false, not_true_eq_false, not_false_eq_true, c65, s65_0, s65_1, s65_2, s65_5, s65_6, s65_7, s65_10, s65_13, s65_14, s65_15, s65_16, s65_17, s65_20, hv, z_ltI, z_gtI, z_leI, z_geI, z_lt0I, z_ge0I, z_gt0I, z_le0I, z_ibI, Int32.toInt_zero, h64, b2, ↓if_pos, ↓if_neg]
  · rw [c172]
    simp (disch := omega) only [s172_0, s172_1, s172_2, s172_5, s172_6, s172_7, s172_9, s172_12, s172_14, z_lt_t, z_lt_f, z_le_t, z_le_f, z_lt0, z_ge0, z_cl, z_in, z_add, z_eq_f, z_ne0, z_00, z_10, z_01, z_11, z_neg1, z_nI_NONE, z_div, z_rem, z_rem2, sw_pu_s, sw_pu_n, true_and, and_true, true_or, or_true, if_true, if_false, not_true_eq_false, not_false_eq_true, c171, s171_0, s171_1, s171_2, s171_5, s171_8, s171_10, s171_11, s171_12, s171_15, s171_16, s171_17, s171_18, s171_19, s171_22, s171_25, s171_27, s171_28, s171_29, s171_30, s171_31, s171_34, s171_36, h160, h161, b1, b2]
theorem o_undo : Opp 102 159 [] := by
  intro d T I π ρ τ ft sv θ M N hO hC hM
  have hV := hC.1
  have hT := hM.1.1
  have w0 := hO.1.1.1
  have w1 := hO.1.1.2.1
  have ho := hO.2.2.1.1
  have p1 := hC.2.2.1.1
  have p2 := hM.2.2.1.1
  by_cases h0 : π.2 = 0
  · rw [h0] at p1 p2
    refine Res_id hO hC hM (-1000002) (fun Q => ?_) (fun Q => ?_)
    · rw [c102]
      simp (disch := omega) only [s102_0, s102_1, s102_4, s102_7, s102_10, s102_12, z_lt_t, z_lt_f, z_le_t, z_le_f, z_lt0, z_ge0, z_cl, z_in, z_add, z_eq_f, z_ne0, z_00, z_10, z_01, z_11, z_neg1, z_nI_NONE, z_div, z_rem, z_rem2, sw_pu_s, sw_pu_n, true_and, and_true, true_or, or_true, if_true, if_false, not_true_eq_false, not_false_eq_true, p1]
    · rw [c159]
      simp (disch := omega) only [s159_0, s159_1, s159_4, s159_7, s159_9, z_lt_t, z_lt_f, z_le_t, z_le_f, z_lt0, z_ge0, z_cl, z_in, z_add, z_eq_f, z_ne0, z_00, z_10, z_01, z_11, z_neg1, z_nI_NONE, z_div, z_rem, z_rem2, sw_pu_s, sw_pu_n, true_and, and_true, true_or, or_true, if_true, if_false, not_true_eq_false, not_false_eq_true, p2]
  obtain ⟨a, ha1, ha2, ha3, ha4, ha5⟩ := k1 (d := d + 17) hC.2.2.1 ho (by omega)
  obtain ⟨oT, oS⟩ := hO.2.2.1.2 (π.2 - 1) (by omega)
  have hV2 := rdM_V (M := sw_up (sw_up M 56 1 (nI (a - 58))) 56 2 (nI (π.2 - 1))) (IsV_c hV (fun k _ _ => by rw [z_up_n _ _ (by omega), z_up_n _ _ (by omega)])) (IsPg_c ha3 (by rw [z_up_n _ _ (by omega), z_up_n _ _ (by omega)])) oS w0 w1 (by omega)
  have h157 := fun d M Q => k157 (d := d) (M := M) (Q := Q) (a := 41 + 41 * (π.2 - 1)) (b := 0) (by omega) (by omega) (by omega)
  have hN : IsM (sw_up N 0 2 (nI (π.2 - 1))) (41 + 41 * (π.2 - 1)) (π.1 (π.2 - 1)) := IsM_c (hM.2.2.1.2 (π.2 - 1) (by omega)) (fun j _ _ => by rw [z_up_n _ _ (by omega)])
  have s0 := oS.1
  refine ⟨π.1 (π.2 - 1), I, (π.1, π.2 - 1), ρ, τ, ft, sv, θ, nI (π.2 - 1), _, cpT (sw_up N 0 2 (nI (π.2 - 1))) (41 + 41 * (π.2 - 1)) 0 41, ⟨oT, OIm_T hO.2.1 oS.1, ⟨by show π.2 - 1 ≤ 24; omega, fun i hi => ?_⟩, hO.2.2.2⟩, ⟨RC_ac hC hV2 ha4 (fun k _ _ => ?_), fun k hk => ?_, fun Q => ?_⟩, RM_ac hM (cpT_IsM hN) ?_ ⟨?_, fun i hi => ?_⟩ (fun k h0 h1 _ => ?_) (fun j _ _ => ?_) (fun j _ _ => ?_), fun k hk => ?_, fun Q => ?_⟩
  · have hi : i < π.2 - 1 := hi
    obtain ⟨x1, x2⟩ := hO.2.2.1.2 i (by omega)
    exact ⟨x1, Sta_tr x2 (Sta_sy oS)⟩
  · rw [rdM_off k (by omega), z_up_n _ _ (by omega), z_up_n _ _ (by omega)]
  · rw [rdM_off k (by omega), z_up_n _ _ (by omega), z_up_n _ _ (by omega)]
  · have e2 : rdM (sw_up (sw_up M 56 1 (nI (a - 58))) 56 2 (nI (π.2 - 1))) 34 a 56 2 = nI (π.2 - 1) := by rw [rdM_off 56 (by omega), z_up_s]
    rw [c102]
    simp (disch := omega) only [s102_0, s102_1, s102_4, s102_7, s102_10, s102_12, s102_13, s102_14, s102_17, s102_18, s102_21, s102_24, s102_25, s102_28, s102_31, z_lt_t, z_lt_f, z_le_t, z_le_f, z_lt0, z_ge0, z_cl, z_in, z_add, z_eq_f, z_ne0, z_00, z_10, z_01, z_11, z_neg1, z_nI_NONE, z_div, z_rem, z_rem2, sw_pu_s, sw_pu_n, true_and, and_true, true_or, or_true, if_true, if_false, not_true_eq_false, not_false_eq_true, p1, ha5, e2]
  · rw [cpT_k (by omega), z_up_j _ _ (by omega), s0]
    exact hM.1.2
  · rw [cpT_k (by omega), z_up_s]
  · have hi : i < π.2 - 1 := hi
    exact cpT_keep (IsM_c (hM.2.2.1.2 i (by omega)) (fun j _ _ => by rw [z_up_n _ _ (by omega)])) (by omega)
  · rw [cpT_k h1, z_up_n _ _ h0]
  · rw [cpT_k (by omega), z_up_j _ _ (by omega)]
  · rw [cpT_out (by omega), z_up_n _ _ (by omega)]
  · rw [cpT_k (by omega), z_up_n _ _ (by omega)]
  · rw [c159]
    simp (disch := omega) only [s159_0, s159_1, s159_4, s159_7, s159_9, s159_10, s159_11, s159_12, s159_15, s159_16, s159_17, s159_20, s159_21, s159_23, s159_25, s159_26, s159_29, s159_30, s159_31, s159_32, s159_35, s159_36, s159_39, z_lt_t, z_lt_f, z_le_t, z_le_f, z_lt0, z_ge0, z_cl, z_in, z_add, z_eq_f, z_ne0, z_00, z_10, z_01, z_11, z_neg1, z_nI_NONE, z_div, z_rem, z_rem2, sw_pu_s, sw_pu_n, true_and, and_true, true_or, or_true, if_true, if_false, not_true_eq_false, not_false_eq_true, p2, z_sub, z_up_s, z_mul, h157, cpT_k]
end OPG
