/-! images, and what would be -/
def sC (M M' : sw_Mem) : Prop := ∀ k, k < 82 ∨ 107 ≤ k → M' k = M k
def sM (N N' : sw_Mem) : Prop := (∀ k, k ≠ 1 → k < 8 ∨ 11 ≤ k → N' k = N k) ∧ ∀ j, j < 1107 → N' 1 j = N 1 j
theorem sC.rf {M : sw_Mem} : sC M M := fun _ _ => rfl
theorem sM.rf {M : sw_Mem} : sM M M := ⟨fun _ _ _ => rfl, fun _ _ => rfl⟩
theorem sC.tr {M M1 M2 : sw_Mem} (h : sC M M1) (h2 : sC M1 M2) : sC M M2 := fun k hk => (h2 k hk).trans (h k hk)
theorem sM.tr {M M1 M2 : sw_Mem} (h : sM M M1) (h2 : sM M1 M2) : sM M M2 := ⟨fun k h1 hk => (h2.1 k h1 hk).trans (h.1 k h1 hk), fun j hj => (h2.2 j hj).trans (h.2 j hj)⟩
theorem sC.off {M M' : sw_Mem} {v : Nat} (h : Off M M' v) (hv : 82 ≤ v ∧ v + 7 ≤ 107) : sC M M' := fun k hk => h k (by omega)
theorem sC.up {M M1 : sw_Mem} {k j : Nat} {x : Int32} (h : sC M M1) (hk : 82 ≤ k ∧ k < 107) : sC M (sw_up M1 k j x) := fun q hq => (z_up_n _ _ (by omega)).trans (h q hq)
theorem sC.set {M M1 : sw_Mem} {k : Nat} {f : Nat → Int32} (h : sC M M1) (hk : 82 ≤ k ∧ k < 107) : sC M (sw_set M1 k f) := fun q hq => (z_set_n _ _ (by omega)).trans (h q hq)
theorem sM.ofm {M M' : sw_Mem} (h : OfM M M' 1107) : sM M M' := ⟨fun k h1 _ => h.1 k h1, fun j hj => h.2 j (by omega)⟩
theorem sM.up {M M1 : sw_Mem} {k j : Nat} {x : Int32} (h : sM M M1) (hk : 8 ≤ k ∧ k < 11) : sM M (sw_up M1 k j x) := ⟨fun q h1 hq => (z_up_n _ _ (by omega)).trans (h.1 q h1 hq), fun q hq => by rw [z_up_n _ _ (by omega)]; exact h.2 q hq⟩
theorem sM.up1 {M M1 : sw_Mem} {j : Nat} {x : Int32} (h : sM M M1) (hj : 1107 ≤ j) : sM M (sw_up M1 1 j x) := ⟨fun q h1 hq => (z_up_n _ _ h1).trans (h.1 q h1 hq), fun q hq => by rw [z_up_j _ _ (by omega)]; exact h.2 q hq⟩
theorem sM.cp {M : sw_Mem} : sM M (cpT M 0 1107 41) := sM.ofm cpT_OfM
section OPH
variable {T : Tw} {I : Nat → Tw} {π : Ps} {ρ : Rw} {τ : Tp} {ft sv : Int32} {θ : Tc} {M N : sw_Mem} {d c m : Nat} {as : List Value}
theorem RC_s (h : RC T I π ρ τ ft sv θ M) {M' : sw_Mem} (e : sC M M') : RC T I π ρ τ ft sv θ M' := RC_c h (fun k hk => e k (by omega))
theorem RM_s (ho : π.2 ≤ 24) (h : RM T I π ρ τ ft sv θ N) {N' : sw_Mem} (e : sM N N') : RM T I π ρ τ ft sv θ N' := RM_c ho h ⟨fun j _ => by rw [e.1 0 (by omega) (by omega)], fun j hj => e.2 j hj, fun k h1 h2 => e.1 k (by omega) (by omega)⟩
theorem sC_no {M' : sw_Mem} (e : sC M M') : noM M M' := fun k hk => e k (by omega)
theorem sM_no {N' : sw_Mem} (e : sM N N') : noC N N' := fun k hk => e.1 k (by omega) (by omega)
theorem Res_scr (hO : OK T I π ρ τ θ) (hC : RC T I π ρ τ ft sv θ M) (hM : RM T I π ρ τ ft sv θ N) (r : Int32) {M1 N1 : sw_Mem} (e1 : sC M M1) (e2 : sM N N1) (h1 : ∀ Q, sw_Cal (d + 20) c (.ref 11 :: as) M Q = Q (some (.int r)) M1) (h2 : ∀ Q, sw_Cal (d + 20) m (.ref 0 :: as) N Q = Q (some (.int r)) N1) : Res d c m as M N :=
  ⟨T, I, π, ρ, τ, ft, sv, θ, r, M1, N1, hO, ⟨RC_s hC e1, sC_no e1, h1⟩, RM_s hO.2.2.1.1 hM e2, sM_no e2, h2⟩
theorem kd_v : sw_kd 83 = 6 ∧ sw_kd 92 = 6 ∧ sw_kd 27 = 6 ∧ sw_kd 42 = 6 ∧ sw_kd 49 = 6 := by decide +kernel
theorem RC_im {I' : Nat → Tw} {M' : sw_Mem} (h : RC T I π ρ τ ft sv θ M) (hI : CIm I' M') (e : ∀ k, k < 42 ∨ 56 ≤ k → M' k = M k) : RC T I' π ρ τ ft sv θ M' := by
  obtain ⟨h1, h2, h3, h4, h5, h6, h7, h8, h9⟩ := h
  refine ⟨IsV_c h1 (fun k _ _ => e k (by omega)), hI, CPs_c h3 (fun k _ _ => e k (by omega)), CRw_c h4 (fun k _ _ => e k (by omega)), CTp_c h5 (fun k _ _ => e k (by omega)), ?_, ?_, CTc_c h8 (fun k _ _ => e k (by omega)), CKn_c h9 (fun k _ _ => e k (by omega))⟩
  · rw [e 11 (by omega)]; exact h6
  · rw [e 11 (by omega)]; exact h7
theorem RM_im {I' : Nat → Tw} {M' : sw_Mem} (ho : π.2 ≤ 24) (h : RM T I π ρ τ ft sv θ M) (hI : MIm I' M') (e : ∀ k, k ≠ 1 → k ≠ 2 → k ≤ 7 → M' k = M k) (e1 : ∀ j, j < 1025 → M' 1 j = M 1 j) : RM T I' π ρ τ ft sv θ M' := by
  obtain ⟨⟨h1, h1'⟩, h2, h3, h4, ⟨h5, h5'⟩, h6, h7, ⟨h8, h8'⟩⟩ := h
  have e0 := e 0 (by omega) (by omega) (by omega)
  exact ⟨⟨IsM_c h1 (fun j _ _ => e1 j (by omega)), by rw [e0]; exact h1'⟩, hI, MPs_c ho h3 (by rw [e0]) (fun j _ _ => e1 j (by omega)), MRw_c h4 (fun k _ _ => e k (by omega) (by omega) (by omega)), ⟨by rw [e0]; exact h5, by rw [e 6 (by omega) (by omega) (by omega)]; exact h5'⟩, by rw [e0]; exact h6, by rw [e0]; exact h7, ⟨by rw [e0]; exact h8, by rw [e 7 (by omega) (by omega) (by omega)]; exact h8'⟩⟩
def upI (I : Nat → Tw) (k : Nat) (T : Tw) : Nat → Tw := fun q => if q = k then T else I q
theorem o_image (x : Int32) : Opp 116 203 [.int x] := by
  intro d T I π ρ τ ft sv θ M N hO hC hM
  have hV := hC.1
  have hT := hM.1.1
  have hi := hM.1.2
  have hW := hO.1.1
  have w0 := hW.1
  have w1 := hW.2.1
  have h62 := fun d Q => k62 (d := d) (Q := Q) hV hW
  by_cases a : 0 ≤ x.toInt ∧ x.toInt < 2
  case neg =>
    refine Res_id hO hC hM (-1000001) (fun Q => ?_) (fun Q => ?_)
    · rw [c116]
      by_cases b3 : x.toInt < 0
      · simp (disch := omega) only [s116_0, s116_1, s116_4, s116_5, s116_6, s116_9, s116_11, z_lt_t, z_lt_f, z_le_t, z_le_f, z_lt0, z_ge0, z_cl, z_in, z_add, z_eq_f, z_ne0, z_00, z_10, z_01, z_11, z_neg1, z_nI_NONE, z_div, z_rem, z_rem2, sw_pu_s, sw_pu_n, true_and, and_true, true_or, or_true, if_true, if_false, not_true_eq_false, not_false_eq_true, z_ltI, z_gtI, z_leI, z_geI, z_lt0I, z_ge0I, z_gt0I, z_le0I, z_ibI, Int32.toInt_zero, ↓if_pos, ↓if_neg]
      · simp (disch := omega) only [s116_0, s116_1, s116_4, s116_5, s116_6, s116_9, s116_11, z_lt_t, z_lt_f, z_le_t, z_le_f, z_lt0, z_ge0, z_cl, z_in, z_add, z_eq_f, z_ne0, z_00, z_10, z_01, z_11, z_neg1, z_nI_NONE, z_div, z_rem, z_rem2, sw_pu_s, sw_pu_n, true_and, and_true, true_or, or_true, if_true, if_false, not_true_eq_false, not_false_eq_true, z_ltI, z_gtI, z_leI, z_geI, z_lt0I, z_ge0I, z_gt0I, z_le0I, z_ibI, Int32.toInt_zero, ↓if_pos, ↓if_neg]
    · rw [c203]
      simp (disch := omega) only [s203_0, s203_1, s203_2, s203_3, s203_4, s203_7, s203_10, s203_12, z_lt_t, z_lt_f, z_le_t, z_le_f, z_lt0, z_ge0, z_cl, z_in, z_add, z_eq_f, z_ne0, z_00, z_10, z_01, z_11, z_neg1, z_nI_NONE, z_div, z_rem, z_rem2, sw_pu_s, sw_pu_n, true_and, and_true, true_or, or_true, if_true, if_false, not_true_eq_false, not_false_eq_true, k129, z_lT, z_xT, ↓if_pos, ↓if_neg]
  obtain ⟨k, hk, rfl⟩ := sw_ib_of (x := x) (n := 2) (by rw [z_ibI]; omega) (by omega)
  by_cases h0 : 0 < T 0
  case neg =>
    rw [is1_n h0] at hi
    refine Res_id hO hC hM (-1000002) (fun Q => ?_) (fun Q => ?_)
    · rw [c116]
      simp (disch := omega) only [s116_0, s116_1, s116_4, s116_5, s116_6, s116_9, s116_11, s116_12, s116_13, s116_16, s116_19, s116_22, s116_24, z_lt_t, z_lt_f, z_le_t, z_le_f, z_lt0, z_ge0, z_cl, z_in, z_add, z_eq_f, z_ne0, z_00, z_10, z_01, z_11, z_neg1, z_nI_NONE, z_div, z_rem, z_rem2, sw_pu_s, sw_pu_n, true_and, and_true, true_or, or_true, if_true, if_false, not_true_eq_false, not_false_eq_true, h62, h0]
    · rw [c203]
      simp (disch := omega) only [s203_0, s203_1, s203_2, s203_3, s203_4, s203_7, s203_10, s203_12, s203_13, s203_14, s203_17, s203_20, s203_22, z_lt_t, z_lt_f, z_le_t, z_le_f, z_lt0, z_ge0, z_cl, z_in, z_add, z_eq_f, z_ne0, z_00, z_10, z_01, z_11, z_neg1, z_nI_NONE, z_div, z_rem, z_rem2, sw_pu_s, sw_pu_n, true_and, and_true, true_or, or_true, if_true, if_false, not_true_eq_false, not_false_eq_true, k129, z_lT, z_xT, z_TI, hi, ↓if_pos, ↓if_neg]
  rw [is1_p h0] at hi
  have hkd : sw_kd (42 + 7 * k) = 6 := by
    rcases (show k = 0 ∨ k = 1 by omega) with rfl | rfl
    · exact kd_v.2.2.2.1
    · exact kd_v.2.2.2.2
  have h59 := fun d Q => k59 (d := d) (M := M) (Q := Q) hkd kd34
  have hB := bcM_V (M := M) (u := 34) hV hkd w0 w1 (by omega)
  have hB2 := bcM_off M (42 + 7 * k) 34
  have h157 := fun d M Q => k157 (d := d) (M := M) (Q := Q) (a := 0) (b := 1025 + 41 * k) (by omega) (by omega) (by omega)
  obtain ⟨i1, i2⟩ := hC.2.1
  obtain ⟨j1, j2, j3, j4⟩ := hM.2.1
  refine ⟨T, upI I k T, π, ρ, τ, ft, sv, θ, nI 1, bcM M (42 + 7 * k) 34, sw_up (cpT N 0 (1025 + 41 * k) 41) 2 k (nI 1), ⟨hO.1, ⟨⟨?_, ?_⟩, fun _ => h0⟩, hO.2.2⟩, ⟨RC_im hC ⟨?_, ?_⟩ (fun q hq => hB2 q (by omega)), fun q hq => hB2 q (by omega), fun Q => ?_⟩, RM_im hO.2.2.1.1 hM ⟨?_, ?_, ?_, ?_⟩ (fun q h1 h2 _ => ?_) (fun j hj => ?_), fun q hq => ?_, fun Q => ?_⟩
  · unfold upI
    split
    · exact hO.1
    · exact hO.2.1.1.1
  · unfold upI
    split
    · exact hO.1
    · exact hO.2.1.1.2
  · unfold upI
    by_cases e : 0 = k
    · rw [if_pos e]
      subst e
      exact hB
    · rw [if_neg e]
      exact IsV_c i1 (fun q _ _ => hB2 q (by omega))
  · unfold upI
    by_cases e : 1 = k
    · rw [if_pos e]
      subst e
      exact hB
    · rw [if_neg e]
      exact IsV_c i2 (fun q _ _ => hB2 q (by omega))
  · rw [c116]
    simp (disch := omega) only [s116_0, s116_1, s116_4, s116_5, s116_6, s116_9, s116_11, s116_12, s116_13, s116_16, s116_19, s116_22, s116_24, s116_25, s116_26, s116_29, s116_30, s116_31, s116_32, s116_35, s116_38, s116_39, z_lt_t, z_lt_f, z_le_t, z_le_f, z_lt0, z_ge0, z_cl, z_in, z_add, z_eq_f, z_ne0, z_00, z_10, z_01, z_11, z_neg1, z_nI_NONE, z_div, z_rem, z_rem2, sw_pu_s, sw_pu_n, true_and, and_true, true_or, or_true, if_true, if_false, not_true_eq_false, not_false_eq_true, h62, h0, h59, hkd]
  · unfold upI
    by_cases e : 0 = k
    · rw [if_pos e]
      subst e
      exact IsM_c (cpT_IsM hT) (fun j _ _ => by rw [z_up_n _ _ (by omega)])
    · rw [if_neg e]
      exact IsM_c j1 (fun j _ _ => by rw [z_up_n _ _ (by omega), cpT_out (by omega)])
  · unfold upI
    by_cases e : 1 = k
    · rw [if_pos e]
      subst e
      exact IsM_c (cpT_IsM hT) (fun j _ _ => by rw [z_up_n _ _ (by omega)])
    · rw [if_neg e]
      exact IsM_c j2 (fun j _ _ => by rw [z_up_n _ _ (by omega), cpT_out (by omega)])
  · unfold upI
    by_cases e : 0 = k
    · rw [if_pos e, ← e, z_up_s, is1_p h0]
    · rw [if_neg e, z_up_j _ _ e, cpT_k (by omega)]
      exact j3
  · unfold upI
    by_cases e : 1 = k
    · rw [if_pos e, ← e, z_up_s, is1_p h0]
    · rw [if_neg e, z_up_j _ _ e, cpT_k (by omega)]
      exact j4
  · rw [z_up_n _ _ h2, cpT_k h1]
  · rw [z_up_n _ _ (by omega), cpT_out (by omega)]
  · rw [z_up_n _ _ (by omega), cpT_k (by omega)]
  · rw [c203]
    simp (disch := omega) only [s203_0, s203_1, s203_2, s203_3, s203_4, s203_7, s203_10, s203_12, s203_13, s203_14, s203_17, s203_20, s203_22, s203_23, s203_24, s203_25, s203_28, s203_30, s203_31, s203_32, s203_33, s203_36, s203_37, s203_40, s203_41, s203_42, s203_43, s203_44, z_lt_t, z_lt_f, z_le_t, z_le_f, z_lt0, z_ge0, z_cl, z_in, z_add, z_eq_f, z_ne0, z_00, z_10, z_01, z_11, z_neg1, z_nI_NONE, z_div, z_rem, z_rem2, sw_pu_s, sw_pu_n, true_and, and_true, true_or, or_true, if_true, if_false, not_true_eq_false, not_false_eq_true, k129, z_lT, z_xT, z_TI, hi, z_mul, h157, ↓if_pos, ↓if_neg, show (nI 1 = 0 ∨ nI 1 = 1) = True from eq_true (Or.inr rfl)]
theorem o_restore (x : Int32) : Opp 117 204 [.int x] := by
  intro d T I π ρ τ ft sv θ M N hO hC hM
  by_cases a : 0 ≤ x.toInt ∧ x.toInt < 2
  case neg =>
    refine Res_id hO hC hM (-1000001) (fun Q => ?_) (fun Q => ?_)
    · rw [c117]
      by_cases b3 : x.toInt < 0
      · simp (disch := omega) only [s117_0, s117_1, s117_4, s117_5, s117_6, s117_9, s117_11, z_lt_t, z_lt_f, z_le_t, z_le_f, z_lt0, z_ge0, z_cl, z_in, z_add, z_eq_f, z_ne0, z_00, z_10, z_01, z_11, z_neg1, z_nI_NONE, z_div, z_rem, z_rem2, sw_pu_s, sw_pu_n, true_and, and_true, true_or, or_true, if_true, if_false, not_true_eq_false, not_false_eq_true, z_ltI, z_gtI, z_leI, z_geI, z_lt0I, z_ge0I, z_gt0I, z_le0I, z_ibI, Int32.toInt_zero, ↓if_pos, ↓if_neg]
      · simp (disch := omega) only [s117_0, s117_1, s117_4, s117_5, s117_6, s117_9, s117_11, z_lt_t, z_lt_f, z_le_t, z_le_f, z_lt0, z_ge0, z_cl, z_in, z_add, z_eq_f, z_ne0, z_00, z_10, z_01, z_11, z_neg1, z_nI_NONE, z_div, z_rem, z_rem2, sw_pu_s, sw_pu_n, true_and, and_true, true_or, or_true, if_true, if_false, not_true_eq_false, not_false_eq_true, z_ltI, z_gtI, z_leI, z_geI, z_lt0I, z_ge0I, z_gt0I, z_le0I, z_ibI, Int32.toInt_zero, ↓if_pos, ↓if_neg]
    · rw [c204]
      simp (disch := omega) only [s204_0, s204_1, s204_2, s204_3, s204_4, s204_7, s204_10, s204_12, z_lt_t, z_lt_f, z_le_t, z_le_f, z_lt0, z_ge0, z_cl, z_in, z_add, z_eq_f, z_ne0, z_00, z_10, z_01, z_11, z_neg1, z_nI_NONE, z_div, z_rem, z_rem2, sw_pu_s, sw_pu_n, true_and, and_true, true_or, or_true, if_true, if_false, not_true_eq_false, not_false_eq_true, k129, z_lT, z_xT, ↓if_pos, ↓if_neg]
  obtain ⟨k, hk, rfl⟩ := sw_ib_of (x := x) (n := 2) (by rw [z_ibI]; omega) (by omega)
  obtain ⟨i1, i2⟩ := hC.2.1
  obtain ⟨j1, j2, j3, j4⟩ := hM.2.1
  have key : OKT (I k) ∧ IsV M (42 + 7 * k) (I k) ∧ IsM N (1025 + 41 * k) (I k) ∧ N 2 k = is1 (I k 0) := by
    rcases (show k = 0 ∨ k = 1 by omega) with rfl | rfl
    · exact ⟨hO.2.1.1.1, i1, j1, j3⟩
    · exact ⟨hO.2.1.1.2, i2, j2, j4⟩
  obtain ⟨hT, hV, hN, hi⟩ := key
  have hkd := hV.1
  have h62 := fun d Q => k62 (d := d) (Q := Q) hV hT.1
  by_cases h0 : 0 < I k 0
  case neg =>
    rw [is1_n h0] at hi
    refine Res_id hO hC hM (-1000002) (fun Q => ?_) (fun Q => ?_)
    · rw [c117]
      simp (disch := omega) only [s117_0, s117_1, s117_4, s117_5, s117_6, s117_9, s117_11, s117_12, s117_13, s117_16, s117_17, s117_18, s117_21, s117_24, s117_26, z_lt_t, z_lt_f, z_le_t, z_le_f, z_lt0, z_ge0, z_cl, z_in, z_add, z_eq_f, z_ne0, z_00, z_10, z_01, z_11, z_neg1, z_nI_NONE, z_div, z_rem, z_rem2, sw_pu_s, sw_pu_n, true_and, and_true, true_or, or_true, if_true, if_false, not_true_eq_false, not_false_eq_true, h62, h0, hkd]
    · rw [c204]
      simp (disch := omega) only [s204_0, s204_1, s204_2, s204_3, s204_4, s204_7, s204_10, s204_12, s204_13, s204_14, s204_17, s204_18, s204_19, s204_22, s204_24, z_lt_t, z_lt_f, z_le_t, z_le_f, z_lt0, z_ge0, z_cl, z_in, z_add, z_eq_f, z_ne0, z_00, z_10, z_01, z_11, z_neg1, z_nI_NONE, z_div, z_rem, z_rem2, sw_pu_s, sw_pu_n, true_and, and_true, true_or, or_true, if_true, if_false, not_true_eq_false, not_false_eq_true, k129, z_lT, z_xT, z_TI, hi, ↓if_pos, ↓if_neg]
  rw [is1_p h0] at hi
  have hT0 : 0 < T 0 := by
    rcases (show k = 0 ∨ k = 1 by omega) with rfl | rfl
    · exact hO.2.1.2 (Or.inl h0)
    · exact hO.2.1.2 (Or.inr h0)
  have h59 := fun d Q => k59 (d := d) (M := M) (Q := Q) kd34 hkd
  have hB := bcM_V (M := M) (v := 34) hV kd34 hT.1.1 hT.1.2.1 (by omega)
  have hB2 := bcM_off M 34 (42 + 7 * k)
  have h157 := fun d M Q => k157 (d := d) (M := M) (Q := Q) (a := 1025 + 41 * k) (b := 0) (by omega) (by omega) (by omega)
  obtain ⟨p1, nx, p2, p3, p4⟩ := hC.2.2.1
  refine ⟨I k, I, (π.1, 0), ρ, τ, ft, sv, θ, nI 1, sw_up (bcM M 34 (42 + 7 * k)) 56 2 (nI 0), sw_up (cpT N (1025 + 41 * k) 0 41) 0 2 (nI 0), ⟨hT, ⟨hO.2.1.1, fun _ => h0⟩, ⟨Nat.zero_le _, fun i hi => absurd hi (Nat.not_lt_zero i)⟩, hO.2.2.2⟩, ⟨RC_ac hC (IsV_c hB (fun q _ _ => z_up_n _ _ (by omega))) ⟨z_up_s _ _ _ _, nx, p2, ?_, fun i hi => absurd hi (Nat.not_lt_zero i)⟩ (fun q _ _ => ?_), fun q hq => ?_, fun Q => ?_⟩, RM_ac hM (IsM_c (cpT_IsM hN) (fun j _ _ => by rw [z_up_n _ _ (by omega)])) ?_ ⟨z_up_s _ _ _ _, fun i hi => absurd hi (Nat.not_lt_zero i)⟩ (fun q h0 h1 _ => ?_) (fun j _ _ => ?_) (fun j _ _ => ?_), fun q hq => ?_, fun Q => ?_⟩
  · rw [z_up_j _ _ (by omega), hB2 56 (by omega)]
    exact p3
  · rw [z_up_n _ _ (by omega), hB2 q (by omega)]
  · rw [z_up_n _ _ (by omega), hB2 q (by omega)]
  · rw [c117]
    simp (disch := omega) only [s117_0, s117_1, s117_4, s117_5, s117_6, s117_9, s117_11, s117_12, s117_13, s117_16, s117_17, s117_18, s117_21, s117_24, s117_26, s117_27, s117_28, s117_31, s117_32, s117_35, s117_36, s117_37, s117_40, s117_41, s117_44, s117_47, s117_48, z_lt_t, z_lt_f, z_le_t, z_le_f, z_lt0, z_ge0, z_cl, z_in, z_add, z_eq_f, z_ne0, z_00, z_10, z_01, z_11, z_neg1, z_nI_NONE, z_div, z_rem, z_rem2, sw_pu_s, sw_pu_n, true_and, and_true, true_or, or_true, if_true, if_false, not_true_eq_false, not_false_eq_true, h62, h0, h59, hkd, c2, s2_0, s2_1, s2_2, s2_5]
  · rw [z_up_j _ _ (by omega), cpT_k (by omega), is1_p h0, hM.1.2, is1_p hT0]
  · rw [z_up_n _ _ h0, cpT_k h1]
  · rw [z_up_j _ _ (by omega), cpT_k (by omega)]
  · rw [z_up_n _ _ (by omega), cpT_out (by omega)]
  · rw [z_up_n _ _ (by omega), cpT_k (by omega)]
  · rw [c204]
    simp (disch := omega) only [s204_0, s204_1, s204_2, s204_3, s204_4, s204_7, s204_10, s204_12, s204_13, s204_14, s204_17, s204_18, s204_19, s204_22, s204_24, s204_25, s204_26, s204_29, s204_31, s204_32, s204_33, s204_34, s204_35, s204_38, s204_39, s204_40, s204_43, s204_44, z_lt_t, z_lt_f, z_le_t, z_le_f, z_lt0, z_ge0, z_cl, z_in, z_add, z_eq_f, z_ne0, z_00, z_10, z_01, z_11, z_neg1, z_nI_NONE, z_div, z_rem, z_rem2, sw_pu_s, sw_pu_n, true_and, and_true, true_or, or_true, if_true, if_false, not_true_eq_false, not_false_eq_true, k129, z_lT, z_xT, z_TI, hi, z_mul, h157, ↓if_pos, ↓if_neg]
end OPH
