section REE
variable {d : Nat} {τ : Tp} {s : Ss} {S : Tw} {M N : sw_Mem} {Q : Option Value → sw_Mem → Prop}
def cQ (τ : Tp) (s : Ss) (S : Tw) (M : sw_Mem) : Prop := cR τ s M ∧ cT S M ∧ WF S ∧ fl0 S ∧ oS τ s
theorem cQ_bd (hO : OTp τ) (h : cQ τ s S M) : ∃ M', cQ τ (ebS τ S s) (ebT τ S s) M' ∧ rC M M' ∧ ∀ Q, sw_Cal (d + 4) 36 [.ref 26] M Q = Q none M' := by
  obtain ⟨h1, h2, h3, h4, h5⟩ := h
  obtain ⟨M', a1, a2, a3, a4⟩ := k36 (d := d) h1 hO h5 h2 h3 h4
  obtain ⟨b1', b2⟩ := WF_bd (τ := τ) (s := s) h3 h4
  exact ⟨M', ⟨a1, a2, b1', b2, ebS_ok h5⟩, a3, a4⟩
theorem cQ_rn (hO : OTp τ) (h : cQ τ s S M) (hf : s.1 = 0) (hp : s.2 < τ.2) : ∃ M', cQ τ (rnS τ S s) (rnT τ S s) M' ∧ rC M M' ∧ ∀ Q, sw_Cal (d + 4) 37 [.ref 26] M Q = Q none M' := by
  obtain ⟨h1, h2, h3, h4, h5⟩ := h
  obtain ⟨M', a1, a2, a3, a4⟩ := k37 (d := d) h1 hO h5 hf hp h2 h3
  obtain ⟨b1', b2, -, -⟩ := WF_rn (τ := τ) (s := s) h3 h4
  exact ⟨M', ⟨a1, a2, b1', b2, rnS_ok h5 hp⟩, a3, a4⟩
theorem k34L (hO : OTp τ) : ∀ k t (s : Ss) (S : Tw) (M : sw_Mem), k + t = 5 → 1 ≤ t → cQ τ s S M → ∃ M', cQ τ (bL τ k s S).1 (bL τ k s S).2 M' ∧ rC M M' ∧ ∀ Q, sw_WP (d + 4) 34 2 [.ref 26, .int (nI t)] [] M Q = Q none M' := by
  intro k
  induction k with
  | zero =>
    intro t s S M ht h1 h
    obtain rfl : t = 5 := by omega
    refine ⟨M, h, rC.rf, fun Q => ?_⟩
    refine (s34_2 ..).trans ?_
    simp (disch := omega) only [s34_0, s34_1, s34_3, s34_4, s34_7, s34_8, s34_11, s34_14, s34_15, s34_18, s34_19, s34_22, s34_23, s34_26, s34_29, s34_31, s34_34, s34_35, s34_38, s34_41, s34_44, z_lt_t, z_lt_f, z_le_t, z_le_f, z_lt0, z_ge0, z_cl, z_in, z_add, z_eq_f, z_ne0, z_00, z_10, z_01, z_11, z_neg1, z_nI_NONE, z_div, z_rem, z_rem2, sw_pu_s, sw_pu_n, true_and, and_true, true_or, or_true, if_true, if_false, not_true_eq_false, not_false_eq_true]
  | succ k ih =>
    intro t s S M ht h1 h
    have g2 := h.1.2.1
    have g3 := h.1.2.2
    have hs := h.2.2.2.2
    have hol := hO.1
    have hs1 := hs.1
    have hs2 := hs.2
    have h57 := fun d Q => k57 (d := d) (M := M) (Q := Q) (p := s.2) h.1.1 hO (by omega)
    rw [bL_s]
    by_cases c : s.1 = 0 ∧ s.2 < τ.2 ∧ τ.1 s.2 = 98
    · rw [if_pos c]
      obtain ⟨M1, a1, a2, a3⟩ := cQ_bd (d := d) hO h
      obtain ⟨M2, b1', b2, b3⟩ := ih (t + 1) _ _ M1 (by omega) (by omega) a1
      refine ⟨M2, b1', a2.tr b2, fun Q => ?_⟩
      rw [c.1] at g3
      rw [atv_p c.2.1, c.2.2] at h57
      rw [← b3 Q]
      refine (s34_2 ..).trans ?_
      simp (disch := omega) only [s34_0, s34_1, s34_3, s34_4, s34_7, s34_8, s34_11, s34_14, s34_15, s34_18, s34_19, s34_22, s34_23, s34_26, s34_29, s34_31, s34_34, s34_35, s34_38, s34_41, s34_44, z_lt_t, z_lt_f, z_le_t, z_le_f, z_lt0, z_ge0, z_cl, z_in, z_add, z_eq_f, z_ne0, z_00, z_10, z_01, z_11, z_neg1, z_nI_NONE, z_div, z_rem, z_rem2, sw_pu_s, sw_pu_n, true_and, and_true, true_or, or_true, if_true, if_false, not_true_eq_false, not_false_eq_true, g2, g3, h57, a3]
    · rw [if_neg c]
      refine ⟨M, h, rC.rf, fun Q => ?_⟩
      refine (s34_2 ..).trans ?_
      by_cases c1 : s.1 = 0
      · rw [c1] at g3
        by_cases c2 : s.2 < τ.2
        · have hx := hO.2 s.2 c2
          rw [atv_p c2] at h57
          have c3 : τ.1 s.2 ≠ 98 := fun e => c ⟨c1, c2, e⟩
          simp (disch := omega) only [s34_0, s34_1, s34_3, s34_4, s34_7, s34_8, s34_11, s34_14, s34_15, s34_18, s34_19, s34_22, s34_23, s34_26, s34_29, s34_31, s34_34, s34_35, s34_38, s34_41, s34_44, z_lt_t, z_lt_f, z_le_t, z_le_f, z_lt0, z_ge0, z_cl, z_in, z_add, z_eq_f, z_ne0, z_00, z_10, z_01, z_11, z_neg1, z_nI_NONE, z_div, z_rem, z_rem2, sw_pu_s, sw_pu_n, true_and, and_true, true_or, or_true, if_true, if_false, not_true_eq_false, not_false_eq_true, g2, g3, h57]
        · rw [atv_n c2] at h57
          simp (disch := omega) only [s34_0, s34_1, s34_3, s34_4, s34_7, s34_8, s34_11, s34_14, s34_15, s34_18, s34_19, s34_22, s34_23, s34_26, s34_29, s34_31, s34_34, s34_35, s34_38, s34_41, s34_44, z_lt_t, z_lt_f, z_le_t, z_le_f, z_lt0, z_ge0, z_cl, z_in, z_add, z_eq_f, z_ne0, z_00, z_10, z_01, z_11, z_neg1, z_nI_NONE, z_div, z_rem, z_rem2, sw_pu_s, sw_pu_n, true_and, and_true, true_or, or_true, if_true, if_false, not_true_eq_false, not_false_eq_true, g2, g3, h57, z_m1_nI]
      · simp (disch := omega) only [s34_0, s34_1, s34_3, s34_4, s34_7, s34_8, s34_11, s34_14, s34_15, s34_18, s34_19, s34_22, s34_23, s34_26, s34_29, s34_31, s34_34, s34_35, s34_38, s34_41, s34_44, z_lt_t, z_lt_f, z_le_t, z_le_f, z_lt0, z_ge0, z_cl, z_in, z_add, z_eq_f, z_ne0, z_00, z_10, z_01, z_11, z_neg1, z_nI_NONE, z_div, z_rem, z_rem2, sw_pu_s, sw_pu_n, true_and, and_true, true_or, or_true, if_true, if_false, not_true_eq_false, not_false_eq_true, g2, g3]
theorem k34 (hO : OTp τ) (h : cQ τ s S M) : ∃ M', cQ τ (bR τ s S).1 (bR τ s S).2 M' ∧ rC M M' ∧ ∀ Q, sw_Cal (d + 5) 34 [.ref 26] M Q = Q none M' := by
  have g3 := h.1.2.2
  have hs1 := h.2.2.2.2.1
  unfold bR
  by_cases c : s.1 = 0
  · rw [if_pos c]
    obtain ⟨M1, a1, a2, a3⟩ := cQ_bd (d := d) hO h
    obtain ⟨M2, b1', b2, b3⟩ := k34L (d := d) hO 4 1 _ _ M1 (by omega) (by omega) a1
    refine ⟨M2, b1', a2.tr b2, fun Q => ?_⟩
    rw [c] at g3
    rw [c34, ← b3 Q]
    simp (disch := omega) only [s34_0, s34_1]
    refine (s34_2 ..).trans ?_
    simp (disch := omega) only [s34_0, s34_1, s34_3, s34_4, s34_7, s34_8, s34_11, s34_14, s34_15, s34_18, s34_19, s34_22, s34_23, s34_26, s34_29, s34_31, s34_34, s34_35, s34_38, s34_41, s34_44, z_lt_t, z_lt_f, z_le_t, z_le_f, z_lt0, z_ge0, z_cl, z_in, z_add, z_eq_f, z_ne0, z_00, z_10, z_01, z_11, z_neg1, z_nI_NONE, z_div, z_rem, z_rem2, sw_pu_s, sw_pu_n, true_and, and_true, true_or, or_true, if_true, if_false, not_true_eq_false, not_false_eq_true, g3, a3]
  · rw [if_neg c]
    refine ⟨M, h, rC.rf, fun Q => ?_⟩
    rw [c34]
    simp (disch := omega) only [s34_0, s34_1, s34_2, s34_3, s34_4, s34_7, s34_8, s34_11, s34_14, s34_15, s34_18, s34_19, s34_22, s34_23, s34_26, s34_29, s34_31, s34_34, s34_35, s34_38, s34_41, s34_44, z_lt_t, z_lt_f, z_le_t, z_le_f, z_lt0, z_ge0, z_cl, z_in, z_add, z_eq_f, z_ne0, z_00, z_10, z_01, z_11, z_neg1, z_nI_NONE, z_div, z_rem, z_rem2, sw_pu_s, sw_pu_n, true_and, and_true, true_or, or_true, if_true, if_false, not_true_eq_false, not_false_eq_true, g3]
theorem k35L (hO : OTp τ) : ∀ k t (s : Ss) (S : Tw) (M : sw_Mem), k + t = 5 → cQ τ s S M → ∃ M', cQ τ (rL τ k s S).1 (rL τ k s S).2 M' ∧ rC M M' ∧ ∀ Q, sw_WP (d + 4) 35 2 [.ref 26, .int (nI t)] [] M Q = Q none M' := by
  intro k
  induction k with
  | zero =>
    intro t s S M ht h
    obtain rfl : t = 5 := by omega
    refine ⟨M, h, rC.rf, fun Q => ?_⟩
    refine (s35_2 ..).trans ?_
    simp (disch := omega) only [s35_0, s35_1, s35_3, s35_4, s35_7, s35_8, s35_11, s35_14, s35_15, s35_18, s35_19, s35_22, s35_25, s35_26, s35_29, s35_30, s35_33, s35_36, s35_39, z_lt_t, z_lt_f, z_le_t, z_le_f, z_lt0, z_ge0, z_cl, z_in, z_add, z_eq_f, z_ne0, z_00, z_10, z_01, z_11, z_neg1, z_nI_NONE, z_div, z_rem, z_rem2, sw_pu_s, sw_pu_n, true_and, and_true, true_or, or_true, if_true, if_false, not_true_eq_false, not_false_eq_true]
  | succ k ih =>
    intro t s S M ht h
    have g2 := h.1.2.1
    have g3 := h.1.2.2
    have hs := h.2.2.2.2
    have hol := hO.1
    have hs1 := hs.1
    have hs2 := hs.2
    have h57 := fun d Q => k57 (d := d) (M := M) (Q := Q) (p := s.2) h.1.1 hO (by omega)
    rw [rL_s]
    by_cases c : s.1 = 0 ∧ s.2 < τ.2
    · rw [if_pos c]
      have hx := hO.2 s.2 c.2
      obtain ⟨M1, a1, a2, a3⟩ := cQ_rn (d := d) hO h c.1 c.2
      obtain ⟨M2, b1', b2, b3⟩ := ih (t + 1) _ _ M1 (by omega) a1
      refine ⟨M2, b1', a2.tr b2, fun Q => ?_⟩
      rw [c.1] at g3
      rw [atv_p c.2] at h57
      rw [← b3 Q]
      refine (s35_2 ..).trans ?_
      simp (disch := omega) only [s35_0, s35_1, s35_3, s35_4, s35_7, s35_8, s35_11, s35_14, s35_15, s35_18, s35_19, s35_22, s35_25, s35_26, s35_29, s35_30, s35_33, s35_36, s35_39, z_lt_t, z_lt_f, z_le_t, z_le_f, z_lt0, z_ge0, z_cl, z_in, z_add, z_eq_f, z_ne0, z_00, z_10, z_01, z_11, z_neg1, z_nI_NONE, z_div, z_rem, z_rem2, sw_pu_s, sw_pu_n, true_and, and_true, true_or, or_true, if_true, if_false, not_true_eq_false, not_false_eq_true, g2, g3, h57, z_nI_m1, a3]
    · rw [if_neg c]
      refine ⟨M, h, rC.rf, fun Q => ?_⟩
      refine (s35_2 ..).trans ?_
      by_cases c1 : s.1 = 0
      · rw [c1] at g3
        rw [atv_n (fun w => c ⟨c1, w⟩)] at h57
        simp (disch := omega) only [s35_0, s35_1, s35_3, s35_4, s35_7, s35_8, s35_11, s35_14, s35_15, s35_18, s35_19, s35_22, s35_25, s35_26, s35_29, s35_30, s35_33, s35_36, s35_39, z_lt_t, z_lt_f, z_le_t, z_le_f, z_lt0, z_ge0, z_cl, z_in, z_add, z_eq_f, z_ne0, z_00, z_10, z_01, z_11, z_neg1, z_nI_NONE, z_div, z_rem, z_rem2, sw_pu_s, sw_pu_n, true_and, and_true, true_or, or_true, if_true, if_false, not_true_eq_false, not_false_eq_true, g2, g3, h57]
      · simp (disch := omega) only [s35_0, s35_1, s35_3, s35_4, s35_7, s35_8, s35_11, s35_14, s35_15, s35_18, s35_19, s35_22, s35_25, s35_26, s35_29, s35_30, s35_33, s35_36, s35_39, z_lt_t, z_lt_f, z_le_t, z_le_f, z_lt0, z_ge0, z_cl, z_in, z_add, z_eq_f, z_ne0, z_00, z_10, z_01, z_11, z_neg1, z_nI_NONE, z_div, z_rem, z_rem2, sw_pu_s, sw_pu_n, true_and, and_true, true_or, or_true, if_true, if_false, not_true_eq_false, not_false_eq_true, g2, g3]
theorem k35 (hO : OTp τ) (h : cQ τ s S M) : ∃ M', cQ τ (rL τ 5 s S).1 (rL τ 5 s S).2 M' ∧ rC M M' ∧ ∀ Q, sw_Cal (d + 5) 35 [.ref 26] M Q = Q none M' := by
  obtain ⟨M2, b1', b2, b3⟩ := k35L (d := d) hO 5 0 s S M (by omega) h
  refine ⟨M2, b1', b2, fun Q => ?_⟩
  rw [c35, ← b3 Q]
  simp (disch := omega) only [s35_0, s35_1]
theorem lw_ok (τ : Tp) : WF (lwT τ) ∧ fl0 (lwT τ) ∧ oS τ (lwS τ) := by
  have h1 := nmV_le (τ := τ) (lo := 1) (hi := 9) (by omega) (tkS τ 109 (0, 0))
  have h2 := nmV_le (τ := τ) (lo := 0) (hi := 9) (by omega) (tkS τ 44 (nmS τ 1 9 (tkS τ 109 (0, 0))))
  refine ⟨?_, fun b hb => ?_, tkS_ok (nmS_ok (tkS_ok (nmS_ok (tkS_ok ⟨by decide, Nat.zero_le _⟩))))⟩
  · unfold lwT
    generalize nmV τ 1 9 (tkS τ 109 (0, 0)) = a at *
    generalize nmV τ 0 9 (tkS τ 44 (nmS τ 1 9 (tkS τ 109 (0, 0)))) = b at *
    have e0 : upT (upT (fun _ => 0) 2 a) 3 b 0 = 0 := rfl
    have e1 : upT (upT (fun _ => 0) 2 a) 3 b 1 = 0 := rfl
    have e2 : upT (upT (fun _ => 0) 2 a) 3 b 2 = a := rfl
    have e3 : upT (upT (fun _ => 0) 2 a) 3 b 3 = b := rfl
    have e4 : upT (upT (fun _ => 0) 2 a) 3 b 4 = 0 := rfl
    refine ⟨by rw [e0]; omega, by rw [e1]; omega, by rw [e2]; omega, by rw [e3]; omega, by rw [e4]; omega, fun q hq => ?_, fun q hq => ?_, fun q hq => ?_⟩
    · rw [e1] at hq; omega
    · rw [e0] at hq; omega
    · rw [e1] at hq; omega
  · unfold lwT
    rw [upT_n _ _ (by omega), upT_n _ _ (by omega)]
theorem k33 (hO : OTp τ) (h : cR τ (0, 0) M) (h2 : M 27 2 = nI 0) (h3 : M 27 3 = nI 0) (h4 : M 27 4 = nI 0) (hF : ∀ b, b < 4 → M 33 b = nI 0) : ∃ M', cQ τ (lwS τ) (lwT τ) M' ∧ rC M M' ∧ ∀ Q, sw_Cal (d + 3) 33 [.ref 26] M Q = Q none M' := by
  have o0 : oS τ (0, 0) := ⟨by decide, Nat.zero_le _⟩
  have t0 := fun d Q => k40 (d := d) (Q := Q) h hO o0 (c := 109) (by omega)
  have c1 := stM_cR h (tkS τ 109 (0, 0))
  have o1 := tkS_ok (c := 109) o0
  have n1 := fun d Q => k41 (d := d) (Q := Q) c1 hO o1 (lo := 1) (hi := 9) (by omega) (by omega)
  have c2 := cR_up (k := 27) (j := 0) (x := nI (nmV τ 1 9 (tkS τ 109 (0, 0)))) (stM_cR c1 (nmS τ 1 9 (tkS τ 109 (0, 0)))) (by omega)
  have o2 := nmS_ok (lo := 1) (hi := 9) o1
  have t2 := fun d Q => k40 (d := d) (Q := Q) c2 hO o2 (c := 44) (by omega)
  have c3 := stM_cR c2 (tkS τ 44 (nmS τ 1 9 (tkS τ 109 (0, 0))))
  have o3 := tkS_ok (c := 44) o2
  have n3 := fun d Q => k41 (d := d) (Q := Q) c3 hO o3 (lo := 0) (hi := 9) (by omega) (by omega)
  have c4 := cR_up (k := 27) (j := 1) (x := nI (nmV τ 0 9 (tkS τ 44 (nmS τ 1 9 (tkS τ 109 (0, 0)))))) (stM_cR c3 (nmS τ 0 9 (tkS τ 44 (nmS τ 1 9 (tkS τ 109 (0, 0)))))) (by omega)
  have o4 := nmS_ok (lo := 0) (hi := 9) o3
  have t4 := fun d Q => k40 (d := d) (Q := Q) c4 hO o4 (c := 59) (by omega)
  have c5 := stM_cR c4 (tkS τ 59 (nmS τ 0 9 (tkS τ 44 (nmS τ 1 9 (tkS τ 109 (0, 0))))))
  obtain ⟨w1, w2, w3⟩ := lw_ok τ
  refine ⟨_, ⟨c5, ⟨?_, fun b hb => ?_⟩, w1, w2, w3⟩, (((((((rC.rf (M := M)).st _).st _).up (k := 27) (by omega)).st _).st _).up (k := 27) (by omega)).st _, fun Q => ?_⟩
  · refine IsV_st27 ⟨kd27, ⟨?_, ?_, ?_, ?_, ?_⟩, fun r hr => ?_, fun b hb => ?_⟩ _
    · rw [z_up_j _ _ (by omega), stM_k (by omega), stM_k (by omega), z_up_s]; rfl
    · rw [z_up_s]; rfl
    · rw [z_up_j _ _ (by omega), stM_k (by omega), stM_k (by omega), z_up_j _ _ (by omega), stM_k (by omega), stM_k (by omega), h2]; rfl
    · rw [z_up_j _ _ (by omega), stM_k (by omega), stM_k (by omega), z_up_j _ _ (by omega), stM_k (by omega), stM_k (by omega), h3]; rfl
    · rw [z_up_j _ _ (by omega), stM_k (by omega), stM_k (by omega), z_up_j _ _ (by omega), stM_k (by omega), stM_k (by omega), h4]; rfl
    · have hr : r < 0 := hr
      omega
    · have hb : b < 0 := hb
      omega
  · rw [stM_k (by omega), z_up_n _ _ (by omega), stM_k (by omega), stM_k (by omega), z_up_n _ _ (by omega), stM_k (by omega), stM_k (by omega)]
    exact hF b hb
  · rw [c33]
    simp (disch := omega) only [s33_0, s33_1, s33_3, s33_6, s33_7, s33_10, s33_11, s33_12, s33_14, s33_17, s33_20, s33_21, s33_23, s33_26, s33_27, s33_30, s33_31, s33_32, s33_34, s33_37, s33_40, s33_41, s33_43, s33_46, z_lt_t, z_lt_f, z_le_t, z_le_f, z_lt0, z_ge0, z_cl, z_in, z_add, z_eq_f, z_ne0, z_00, z_10, z_01, z_11, z_neg1, z_nI_NONE, z_div, z_rem, z_rem2, sw_pu_s, sw_pu_n, true_and, and_true, true_or, or_true, if_true, if_false, not_true_eq_false, not_false_eq_true, t0, n1, t2, n3, t4]
theorem kd33 : sw_kd 33 = 10 ∧ sw_ln 33 = 4 := by decide +kernel
theorem k32 (hO : OTp τ) (h : CTp τ M) : ∃ M', cQ τ (prR τ).1 (prR τ).2 M' ∧ rC M M' ∧ ∀ Q, sw_Cal (d + 6) 32 [.ref 26] M Q = Q (some (.int (nI (prR τ).1.1))) M' := by
  have f1 := fun d M Q => k222 (d := d) (M := M) (Q := Q) kd33.1 (nI 0)
  rw [kd33.2] at f1
  have h67 := fun d M Q => k67 (d := d) (M := M) (Q := Q) kd27
  have h58 : ∀ d M Q, sw_Cal (d + 3) 58 [.ref 27] M Q = Q none (sw_set (sw_set (sw_up (sw_up (sw_up M 27 2 (nI 0)) 27 3 (nI 0)) 27 4 (nI 0)) 33 (fun j => if j < 4 then nI 0 else sw_up (sw_up (sw_up M 27 2 (nI 0)) 27 3 (nI 0)) 27 4 (nI 0) 33 j)) 32 (fun j => if j < 4 then -1000000 else sw_set (sw_up (sw_up (sw_up M 27 2 (nI 0)) 27 3 (nI 0)) 27 4 (nI 0)) 33 (fun j => if j < 4 then nI 0 else sw_up (sw_up (sw_up M 27 2 (nI 0)) 27 3 (nI 0)) 27 4 (nI 0) 33 j) 32 j)) := by
    intro d M Q
    have kv := kd27
    rw [c58]
    simp (disch := omega) only [s58_0, s58_1, s58_2, s58_5, s58_6, s58_7, s58_10, s58_11, s58_12, s58_15, s58_16, s58_19, s58_20, s58_23, s58_24, s58_27, z_lt_t, z_lt_f, z_le_t, z_le_f, z_lt0, z_ge0, z_cl, z_in, z_add, z_eq_f, z_ne0, z_00, z_10, z_01, z_11, z_neg1, z_nI_NONE, z_div, z_rem, z_rem2, sw_pu_s, sw_pu_n, true_and, and_true, true_or, or_true, if_true, if_false, not_true_eq_false, not_false_eq_true, kd27, f1, h67]
  obtain ⟨M1, a1, a2, a3⟩ := k33 (d := d + 2) hO (M := sw_set (sw_set (sw_up (sw_up (sw_up (sw_up (sw_up M 26 2 (nI 0)) 26 3 (nI 0)) 27 2 (nI 0)) 27 3 (nI 0)) 27 4 (nI 0)) 33 (fun j => if j < 4 then nI 0 else sw_up (sw_up (sw_up (sw_up (sw_up M 26 2 (nI 0)) 26 3 (nI 0)) 27 2 (nI 0)) 27 3 (nI 0)) 27 4 (nI 0) 33 j)) 32 (fun j => if j < 4 then -1000000 else sw_set (sw_up (sw_up (sw_up (sw_up (sw_up M 26 2 (nI 0)) 26 3 (nI 0)) 27 2 (nI 0)) 27 3 (nI 0)) 27 4 (nI 0)) 33 (fun j => if j < 4 then nI 0 else sw_up (sw_up (sw_up (sw_up (sw_up M 26 2 (nI 0)) 26 3 (nI 0)) 27 2 (nI 0)) 27 3 (nI 0)) 27 4 (nI 0) 33 j) 32 j)) ⟨CTp_c h (fun k _ _ => by rw [z_set_n _ _ (by omega), z_set_n _ _ (by omega), z_up_n _ _ (by omega), z_up_n _ _ (by omega), z_up_n _ _ (by omega), z_up_n _ _ (by omega), z_up_n _ _ (by omega)]), by rw [z_set_n _ _ (by omega), z_set_n _ _ (by omega), z_up_n _ _ (by omega), z_up_n _ _ (by omega), z_up_n _ _ (by omega), z_up_j _ _ (by omega), z_up_s], by rw [z_set_n _ _ (by omega), z_set_n _ _ (by omega), z_up_n _ _ (by omega), z_up_n _ _ (by omega), z_up_n _ _ (by omega), z_up_s]⟩ (by rw [z_set_n _ _ (by omega), z_set_n _ _ (by omega), z_up_j _ _ (by omega), z_up_j _ _ (by omega), z_up_s]) (by rw [z_set_n _ _ (by omega), z_set_n _ _ (by omega), z_up_j _ _ (by omega), z_up_s]) (by rw [z_set_n _ _ (by omega), z_set_n _ _ (by omega), z_up_s]) (fun b hb => by rw [z_set_n _ _ (by omega), z_set_s, if_pos hb])
  obtain ⟨M2, b1', b2, b3⟩ := k34 (d := d) hO a1
  obtain ⟨M3, e1, e2, e3⟩ := k35 (d := d) hO b1'
  refine ⟨M3, e1, (((((((((rC.rf (M := M)).up (by omega)).up (by omega)).up (by omega)).up (by omega)).up (by omega)).tr (fun k hk => z_set_n _ _ (by omega))).tr (fun k hk => z_set_n _ _ (by omega))).tr a2).tr (b2.tr e2), fun Q => ?_⟩
  have g3 := e1.1.2.2
  rw [c32]
  simp (disch := omega) only [s32_0, s32_1, s32_2, s32_5, s32_6, s32_7, s32_10, s32_11, s32_14, s32_17, s32_18, s32_21, s32_22, s32_25, s32_26, s32_29, s32_30, s32_33, z_lt_t, z_lt_f, z_le_t, z_le_f, z_lt0, z_ge0, z_cl, z_in, z_add, z_eq_f, z_ne0, z_00, z_10, z_01, z_11, z_neg1, z_nI_NONE, z_div, z_rem, z_rem2, sw_pu_s, sw_pu_n, true_and, and_true, true_or, or_true, if_true, if_false, not_true_eq_false, not_false_eq_true, h58, a3, b3, e3, g3]
  rfl
end REE
