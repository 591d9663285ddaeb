section ASM
variable {d n k : Nat} {M : sw_Mem} {T : Tw} {Q : Option Value → sw_Mem → Prop}
def AM (M : sw_Mem) (n r k : Nat) (rk fu : Int32) : Prop := M 0 12 = nI n ∧ M 1 (21 + r) = nI k ∧ M 1 (25 + r) = rk ∧ M 1 (29 + r) = fu
variable {rk fu : Int32} {r : Nat}
theorem AM.lv (h : AM M n r k rk fu) (b : Nat) : AM (lvM n b M) (n + 1) r k rk fu := by
  obtain ⟨h1, h2, h3, h4⟩ := h
  exact ⟨z_up_s _ _ _ _, by rw [lvM_o _ _ (by omega) (by omega)]; exact h2, by rw [lvM_o _ _ (by omega) (by omega)]; exact h3, by rw [lvM_o _ _ (by omega) (by omega)]; exact h4⟩
theorem k208 (h : M 0 12 = nI n) (hn : n < 16) (b : Nat) : sw_Cal (d + 1) 208 [.ref 0, .int (nI b)] M Q = Q none (lvM n b M) := by
  rw [c208]
  simp (disch := omega) only [s208_0, s208_1, s208_4, s208_6, s208_9, s208_10, s208_13, s208_14, s208_17, s208_18, s208_19, s208_20, s208_21, s208_24, s208_25, s208_26, s208_29, z_lt_t, z_lt_f, z_le_t, z_le_f, z_lt0, z_ge0, z_cl, z_in, z_add, z_eq_f, z_ne0, z_00, z_10, z_01, z_11, z_neg1, z_nI_NONE, z_div, z_rem, z_rem2, sw_pu_s, sw_pu_n, true_and, and_true, true_or, or_true, if_true, if_false, not_true_eq_false, not_false_eq_true, h, z_up_n]
  rfl
theorem k209 (h : AM M n r k rk fu) (hn : n < 16) (hr : r < 4) : sw_Cal (d + 2) 209 [.ref 0, .int (nI r)] M Q = Q (some (.int rk)) (lsM [10] n M) := by
  have h7 := fun d Q => k208 (d := d) (Q := Q) h.1 hn 10
  obtain ⟨-, -, f3, f4⟩ := h.lv 10
  rw [c209]
  simp (disch := omega) only [s209_0, s209_1, s209_3, s209_6, s209_7, s209_10, s209_12, s209_13, s209_14, s209_15, z_lt_t, z_lt_f, z_le_t, z_le_f, z_lt0, z_ge0, z_cl, z_in, z_add, z_eq_f, z_ne0, z_00, z_10, z_01, z_11, z_neg1, z_nI_NONE, z_div, z_rem, z_rem2, sw_pu_s, sw_pu_n, true_and, and_true, true_or, or_true, if_true, if_false, not_true_eq_false, not_false_eq_true, h7, f3]
  rfl
theorem k213 (h : AM M n r k rk fu) (hn : n < 16) : sw_Cal (d + 2) 213 [.ref 0, .int (nI r)] M Q = Q (some (.int (nI r))) (lsM [20] n M) := by
  have h7 := fun d Q => k208 (d := d) (Q := Q) h.1 hn 20
  rw [c213]
  simp (disch := omega) only [s213_0, s213_1, s213_3, s213_6, s213_7, z_lt_t, z_lt_f, z_le_t, z_le_f, z_lt0, z_ge0, z_cl, z_in, z_add, z_eq_f, z_ne0, z_00, z_10, z_01, z_11, z_neg1, z_nI_NONE, z_div, z_rem, z_rem2, sw_pu_s, sw_pu_n, true_and, and_true, true_or, or_true, if_true, if_false, not_true_eq_false, not_false_eq_true, h7]
  rfl
theorem k214 (h : AM M n r k rk fu) (hn : n < 15) (hr : r < 4) : sw_Cal (d + 3) 214 [.ref 0, .int (nI r)] M Q = Q (some (.int (nI r + fu))) (lsM [21, 20] n M) := by
  have h7 := fun d Q => k208 (d := d) (Q := Q) h.1 (show n < 16 by omega) 21
  have h' := h.lv 21
  have hb := fun d Q => k213 (d := d) (Q := Q) h' (by omega)
  have f4 : lsM [20] (n + 1) (lvM n 21 M) 1 (29 + r) = fu := (h'.lv 20).2.2.2
  rw [c214]
  simp (disch := omega) only [s214_0, s214_1, s214_3, s214_6, s214_7, s214_8, s214_11, s214_12, s214_15, s214_17, s214_18, s214_19, s214_20, s214_21, z_lt_t, z_lt_f, z_le_t, z_le_f, z_lt0, z_ge0, z_cl, z_in, z_add, z_eq_f, z_ne0, z_00, z_10, z_01, z_11, z_neg1, z_nI_NONE, z_div, z_rem, z_rem2, sw_pu_s, sw_pu_n, true_and, and_true, true_or, or_true, if_true, if_false, not_true_eq_false, not_false_eq_true, h7, hb, f4]
  rfl
theorem k215 (h : AM M n r k rk fu) (hn : n < 14) (hr : r < 4) (h1 : 1 ≤ k) (h5 : k ≤ 3) : sw_Cal (d + 4) 215 [.ref 0, .int (nI r)] M Q = Q (some (.int (mkV k fu (nI r)))) (lsM (mkL k) n M) := by
  have f2 := h.2.1
  have hb1 := fun d Q => k214 (d := d) (Q := Q) h (by omega) hr
  rw [c215]
  rcases (show k = 1 ∨ k = 2 ∨ k = 3 by omega) with rfl | rfl | rfl
  · simp (disch := omega) only [s215_0, s215_1, s215_4, s215_6, s215_7, s215_8, s215_9, s215_36, s215_37, s215_39, s215_42, s215_43, s215_44, s215_47, s215_50, s215_51, s215_52, s215_53, s215_55, s215_58, s215_59, s215_60, s215_61, s215_64, s215_65, s215_66, s215_67, s215_68, s215_71, z_lt_t, z_lt_f, z_le_t, z_le_f, z_lt0, z_ge0, z_cl, z_in, z_add, z_eq_f, z_ne0, z_00, z_10, z_01, z_11, z_neg1, z_nI_NONE, z_div, z_rem, z_rem2, sw_pu_s, sw_pu_n, true_and, and_true, true_or, or_true, if_true, if_false, not_true_eq_false, not_false_eq_true, f2, hb1, show sw_pick [2, 3] [52, 36, 66] (nI 1).toInt = 66 from by decide]
    rfl
  · have h7 := fun d Q => k208 (d := d) (Q := Q) h.1 (show n < 16 by omega) 24
    have hb := fun d Q => k214 (d := d) (Q := Q) (h.lv 24) (by omega) hr
    simp (disch := omega) only [s215_0, s215_1, s215_4, s215_6, s215_7, s215_8, s215_9, s215_36, s215_37, s215_39, s215_42, s215_43, s215_44, s215_47, s215_50, s215_51, s215_52, s215_53, s215_55, s215_58, s215_59, s215_60, s215_61, s215_64, s215_65, s215_66, s215_67, s215_68, s215_71, z_lt_t, z_lt_f, z_le_t, z_le_f, z_lt0, z_ge0, z_cl, z_in, z_add, z_eq_f, z_ne0, z_00, z_10, z_01, z_11, z_neg1, z_nI_NONE, z_div, z_rem, z_rem2, sw_pu_s, sw_pu_n, true_and, and_true, true_or, or_true, if_true, if_false, not_true_eq_false, not_false_eq_true, f2, h7, hb, show sw_pick [2, 3] [52, 36, 66] (nI 2).toInt = 52 from by decide]
    rfl
  · have h7 := fun d Q => k208 (d := d) (Q := Q) h.1 (show n < 16 by omega) 22
    have hb := fun d Q => k214 (d := d) (Q := Q) (h.lv 22) (by omega) hr
    simp (disch := omega) only [s215_0, s215_1, s215_4, s215_6, s215_7, s215_8, s215_9, s215_36, s215_37, s215_39, s215_42, s215_43, s215_44, s215_47, s215_50, s215_51, s215_52, s215_53, s215_55, s215_58, s215_59, s215_60, s215_61, s215_64, s215_65, s215_66, s215_67, s215_68, s215_71, z_lt_t, z_lt_f, z_le_t, z_le_f, z_lt0, z_ge0, z_cl, z_in, z_add, z_eq_f, z_ne0, z_00, z_10, z_01, z_11, z_neg1, z_nI_NONE, z_div, z_rem, z_rem2, sw_pu_s, sw_pu_n, true_and, and_true, true_or, or_true, if_true, if_false, not_true_eq_false, not_false_eq_true, f2, h7, hb, show sw_pick [2, 3] [52, 36, 66] (nI 3).toInt = 36 from by decide]
    rfl
theorem k210 (h : AM M n r k rk fu) (hn : n < 12) (hr : r < 4) (h1 : 1 ≤ k) (h5 : k ≤ 3) : sw_Cal (d + 5) 210 [.ref 0, .int (nI r)] M Q = Q (some (.int (rk + mkV k fu (nI r)))) (lsM ([11, 10] ++ mkL k) n M) := by
  have h7 := fun d Q => k208 (d := d) (Q := Q) h.1 (show n < 16 by omega) 11
  have h' := h.lv 11
  have hb := fun d Q => k209 (d := d) (Q := Q) h' (by omega) hr
  have hm := fun d Q => k215 (d := d) (Q := Q) (M := lsM [10] (n + 1) (lvM n 11 M)) (n := n + 1 + 1) (h'.lv 10) (by omega) hr h1 h5
  rw [c210]
  simp (disch := omega) only [s210_0, s210_1, s210_3, s210_6, s210_7, s210_8, s210_11, s210_12, s210_13, s210_14, s210_15, s210_18, s210_19, z_lt_t, z_lt_f, z_le_t, z_le_f, z_lt0, z_ge0, z_cl, z_in, z_add, z_eq_f, z_ne0, z_00, z_10, z_01, z_11, z_neg1, z_nI_NONE, z_div, z_rem, z_rem2, sw_pu_s, sw_pu_n, true_and, and_true, true_or, or_true, if_true, if_false, not_true_eq_false, not_false_eq_true, h7, hb, hm]
  rfl
theorem k211 (h : AM M n r k rk fu) (hn : n < 12) (hr : r < 4) : sw_Cal (d + 3) 211 [.ref 0, .int (nI r)] M Q = Q (some (.int (rk - nI 100))) (lsM [13, 10] n M) := by
  have h7 := fun d Q => k208 (d := d) (Q := Q) h.1 (show n < 16 by omega) 13
  have hb := fun d Q => k209 (d := d) (Q := Q) (h.lv 13) (by omega) hr
  rw [c211]
  simp (disch := omega) only [s211_0, s211_1, s211_3, s211_6, s211_7, s211_8, s211_11, s211_13, s211_14, z_lt_t, z_lt_f, z_le_t, z_le_f, z_lt0, z_ge0, z_cl, z_in, z_add, z_eq_f, z_ne0, z_00, z_10, z_01, z_11, z_neg1, z_nI_NONE, z_div, z_rem, z_rem2, sw_pu_s, sw_pu_n, true_and, and_true, true_or, or_true, if_true, if_false, not_true_eq_false, not_false_eq_true, h7, hb]
  rfl
theorem k212 (h : AM M n r k rk fu) (hn : n < 11) (hr : r < 4) (h1 : 1 ≤ k) (h5 : k ≤ 5) : sw_Cal (d + 6) 212 [.ref 0, .int (nI r)] M Q = Q (some (.int (szV k rk fu (nI r)))) (lsM (szL k) n M) := by
  have f2 := h.2.1
  have hb1 := fun d Q h1 h5 => k210 (d := d) (Q := Q) h (by omega) hr h1 h5
  have hb4 := fun d Q => k211 (d := d) (Q := Q) h (by omega) hr
  rw [c212]
  rcases (show k = 1 ∨ k = 2 ∨ k = 3 ∨ k = 4 ∨ k = 5 by omega) with rfl | rfl | rfl | rfl | rfl
  · simp (disch := omega) only [s212_0, s212_1, s212_4, s212_6, s212_7, s212_8, s212_9, s212_40, s212_41, s212_43, s212_46, s212_47, s212_48, s212_51, s212_52, s212_53, s212_54, s212_55, s212_58, s212_59, s212_60, s212_62, s212_65, s212_66, s212_67, s212_68, s212_71, s212_72, s212_73, s212_74, s212_75, s212_78, z_lt_t, z_lt_f, z_le_t, z_le_f, z_lt0, z_ge0, z_cl, z_in, z_add, z_eq_f, z_ne0, z_00, z_10, z_01, z_11, z_neg1, z_nI_NONE, z_div, z_rem, z_rem2, sw_pu_s, sw_pu_n, true_and, and_true, true_or, or_true, if_true, if_false, not_true_eq_false, not_false_eq_true, f2, hb1, show sw_pick [2, 3, 4, 5] [40, 73, 53, 59, 73] (nI 1).toInt = 73 from by decide]
    rfl
  · have h7 := fun d Q => k208 (d := d) (Q := Q) h.1 (show n < 16 by omega) 12
    have hb := fun d Q => k210 (d := d) (Q := Q) (h.lv 12) (by omega) hr (by omega) (by omega)
    simp (disch := omega) only [s212_0, s212_1, s212_4, s212_6, s212_7, s212_8, s212_9, s212_40, s212_41, s212_43, s212_46, s212_47, s212_48, s212_51, s212_52, s212_53, s212_54, s212_55, s212_58, s212_59, s212_60, s212_62, s212_65, s212_66, s212_67, s212_68, s212_71, s212_72, s212_73, s212_74, s212_75, s212_78, z_lt_t, z_lt_f, z_le_t, z_le_f, z_lt0, z_ge0, z_cl, z_in, z_add, z_eq_f, z_ne0, z_00, z_10, z_01, z_11, z_neg1, z_nI_NONE, z_div, z_rem, z_rem2, sw_pu_s, sw_pu_n, true_and, and_true, true_or, or_true, if_true, if_false, not_true_eq_false, not_false_eq_true, f2, h7, hb, show sw_pick [2, 3, 4, 5] [40, 73, 53, 59, 73] (nI 2).toInt = 40 from by decide]
    rfl
  · simp (disch := omega) only [s212_0, s212_1, s212_4, s212_6, s212_7, s212_8, s212_9, s212_40, s212_41, s212_43, s212_46, s212_47, s212_48, s212_51, s212_52, s212_53, s212_54, s212_55, s212_58, s212_59, s212_60, s212_62, s212_65, s212_66, s212_67, s212_68, s212_71, s212_72, s212_73, s212_74, s212_75, s212_78, z_lt_t, z_lt_f, z_le_t, z_le_f, z_lt0, z_ge0, z_cl, z_in, z_add, z_eq_f, z_ne0, z_00, z_10, z_01, z_11, z_neg1, z_nI_NONE, z_div, z_rem, z_rem2, sw_pu_s, sw_pu_n, true_and, and_true, true_or, or_true, if_true, if_false, not_true_eq_false, not_false_eq_true, f2, hb1, show sw_pick [2, 3, 4, 5] [40, 73, 53, 59, 73] (nI 3).toInt = 73 from by decide]
    rfl
  · simp (disch := omega) only [s212_0, s212_1, s212_4, s212_6, s212_7, s212_8, s212_9, s212_40, s212_41, s212_43, s212_46, s212_47, s212_48, s212_51, s212_52, s212_53, s212_54, s212_55, s212_58, s212_59, s212_60, s212_62, s212_65, s212_66, s212_67, s212_68, s212_71, s212_72, s212_73, s212_74, s212_75, s212_78, z_lt_t, z_lt_f, z_le_t, z_le_f, z_lt0, z_ge0, z_cl, z_in, z_add, z_eq_f, z_ne0, z_00, z_10, z_01, z_11, z_neg1, z_nI_NONE, z_div, z_rem, z_rem2, sw_pu_s, sw_pu_n, true_and, and_true, true_or, or_true, if_true, if_false, not_true_eq_false, not_false_eq_true, f2, hb4, show sw_pick [2, 3, 4, 5] [40, 73, 53, 59, 73] (nI 4).toInt = 53 from by decide]
    rfl
  · have h7 := fun d Q => k208 (d := d) (Q := Q) h.1 (show n < 16 by omega) 14
    have hb := fun d Q => k211 (d := d) (Q := Q) (h.lv 14) (by omega) hr
    simp (disch := omega) only [s212_0, s212_1, s212_4, s212_6, s212_7, s212_8, s212_9, s212_40, s212_41, s212_43, s212_46, s212_47, s212_48, s212_51, s212_52, s212_53, s212_54, s212_55, s212_58, s212_59, s212_60, s212_62, s212_65, s212_66, s212_67, s212_68, s212_71, s212_72, s212_73, s212_74, s212_75, s212_78, z_lt_t, z_lt_f, z_le_t, z_le_f, z_lt0, z_ge0, z_cl, z_in, z_add, z_eq_f, z_ne0, z_00, z_10, z_01, z_11, z_neg1, z_nI_NONE, z_div, z_rem, z_rem2, sw_pu_s, sw_pu_n, true_and, and_true, true_or, or_true, if_true, if_false, not_true_eq_false, not_false_eq_true, f2, h7, hb, show sw_pick [2, 3, 4, 5] [40, 73, 53, 59, 73] (nI 5).toInt = 59 from by decide]
    rfl
theorem k216 (h : AM M n r k rk fu) (hn : n < 9) (hr : r < 4) (h1 : 1 ≤ k) (h5 : k ≤ 5) : sw_Cal (d + 7) 216 [.ref 0, .int (nI r)] M Q = Q (some (.int (nI r - szV k rk fu (nI r)))) (lsM ([23, 20] ++ szL k) n M) := by
  have h7 := fun d Q => k208 (d := d) (Q := Q) h.1 (show n < 16 by omega) 23
  have h' := h.lv 23
  have hb := fun d Q => k213 (d := d) (Q := Q) h' (by omega)
  have hm := fun d Q => k212 (d := d) (Q := Q) (M := lsM [20] (n + 1) (lvM n 23 M)) (n := n + 1 + 1) (h'.lv 20) (by omega) hr h1 h5
  rw [c216]
  simp (disch := omega) only [s216_0, s216_1, s216_3, s216_6, s216_7, s216_8, s216_11, s216_12, s216_13, s216_14, s216_15, s216_18, s216_19, z_lt_t, z_lt_f, z_le_t, z_le_f, z_lt0, z_ge0, z_cl, z_in, z_add, z_eq_f, z_ne0, z_00, z_10, z_01, z_11, z_neg1, z_nI_NONE, z_div, z_rem, z_rem2, sw_pu_s, sw_pu_n, true_and, and_true, true_or, or_true, if_true, if_false, not_true_eq_false, not_false_eq_true, h7, hb, hm]
  rfl
end ASM
section OPE
variable {T : Tw} {I : Nat → Tw} {π : Ps} {ρ : Rw} {τ : Tp} {ft sv : Int32} {θ : Tc} {M N : sw_Mem} {d c m : Nat} {as : List Value}
theorem RC_tc {θ' : Tc} {M' : sw_Mem} (h : RC T I π ρ τ ft sv θ M) (hc : CTc θ' M') (e : ∀ k, k ≠ 107 → k ≠ 108 → M' k = M k) : RC T I π ρ τ ft sv θ' M' := by
  obtain ⟨h1, h2, h3, h4, h5, h6, h7, h8, h9⟩ := h
  refine ⟨IsV_c h1 (fun k _ _ => e k (by omega) (by omega)), CIm_c h2 (fun k _ _ => e k (by omega) (by omega)), CPs_c h3 (fun k _ _ => e k (by omega) (by omega)), CRw_c h4 (fun k _ _ => e k (by omega) (by omega)), CTp_c h5 (fun k _ _ => e k (by omega) (by omega)), ?_, ?_, hc, CKn_c h9 (fun k _ _ => e k (by omega) (by omega))⟩
  · rw [e 11 (by omega) (by omega)]; exact h6
  · rw [e 11 (by omega) (by omega)]; exact h7
theorem RM_tc {θ' : Tc} {M' : sw_Mem} (h : RM T I π ρ τ ft sv θ M) (hc : MTc θ' M') (e : ∀ k, k ≠ 0 → k ≠ 7 → M' k = M k) (e0 : ∀ j, j ≠ 12 → M' 0 j = M 0 j) : RM T I π ρ τ ft sv θ' M' := by
  obtain ⟨⟨h1, h1'⟩, h2, h3, h4, ⟨h5, h5'⟩, h6, h7, ⟨h8, h8'⟩⟩ := h
  have e1 := e 1 (by omega) (by omega)
  exact ⟨⟨IsM_c h1 (fun j _ _ => by rw [e1]), by rw [e0 1 (by omega)]; exact h1'⟩, MIm_c h2 (fun j _ _ => by rw [e1]) (e 2 (by omega) (by omega)), ⟨by rw [e0 2 (by omega)]; exact h3.1, fun i hi => IsM_c (h3.2 i hi) (fun j _ _ => by rw [e1])⟩, MRw_c h4 (fun k _ _ => e k (by omega) (by omega)), ⟨by rw [e0 8 (by omega)]; exact h5, by rw [e 6 (by omega) (by omega)]; exact h5'⟩, by rw [e0 9 (by omega)]; exact h6, by rw [e0 10 (by omega)]; exact h7, hc⟩
def asM (M : sw_Mem) (r : Nat) (T : Tw) : sw_Mem := sw_up (sw_up (sw_up (sw_up (sw_up M 107 1 (nI 0)) 107 2 (nI (T (21 + r)))) 107 3 (nI (T (25 + r)))) 107 4 (nI (T (29 + r)))) 107 5 (nI r)
theorem asM_AS (hK : CKn M) (r : Nat) : AS (asM M r T) 0 (T (21 + r)) (nI (T (25 + r))) (nI (T (29 + r))) (nI r) := by
  refine ⟨?_, ?_, ?_, ?_, ?_, CKn_c hK (fun k _ _ => ?_)⟩
  · unfold asM
    rw [z_up_j _ _ (by omega), z_up_j _ _ (by omega), z_up_j _ _ (by omega), z_up_j _ _ (by omega), z_up_s]
  · unfold asM
    rw [z_up_j _ _ (by omega), z_up_j _ _ (by omega), z_up_j _ _ (by omega), z_up_s]
  · unfold asM
    rw [z_up_j _ _ (by omega), z_up_j _ _ (by omega), z_up_s]
  · unfold asM
    rw [z_up_j _ _ (by omega), z_up_s]
  · unfold asM
    rw [z_up_s]
  · unfold asM
    rw [z_up_n _ _ (by omega), z_up_n _ _ (by omega), z_up_n _ _ (by omega), z_up_n _ _ (by omega), z_up_n _ _ (by omega)]
theorem asM_o (M : sw_Mem) (r : Nat) {k : Nat} (h : k ≠ 107) : asM M r T k = M k := by
  unfold asM
  rw [z_up_n _ _ (by omega), z_up_n _ _ (by omega), z_up_n _ _ (by omega), z_up_n _ _ (by omega), z_up_n _ _ (by omega)]
theorem ask_fin (hO : OK T I π ρ τ θ) (hC : RC T I π ρ τ ft sv θ M) (hM : RM T I π ρ τ ft sv θ N) {r : Nat} (L : List Nat) (V : Int32) (hL : L.length ≤ 16)
    (h1 : ∀ Q, sw_Cal (d + 20) c (.ref 11 :: as) M Q = Q (some (.int V)) (lsC L 0 (asM M r T)))
    (h2 : ∀ Q, sw_Cal (d + 20) m (.ref 0 :: as) N Q = Q (some (.int V)) (lsM L 0 (sw_up N 0 12 (nI 0)))) : Res d c m as M N := by
  have hK := hC.2.2.2.2.2.2.2.2
  have a1 := (asM_AS (T := T) hK r).1
  refine ⟨T, I, π, ρ, τ, ft, sv, (lsF L 0 (fun _ => 0), 0 + L.length), V, _, _, ⟨hO.1, hO.2.1, hO.2.2.1, hO.2.2.2.1, hO.2.2.2.2.1, ?_⟩, ⟨RC_tc hC (lsC_tc L 0 (asM M r T) (fun _ => 0) ⟨a1, fun i hi => absurd hi (Nat.not_lt_zero i)⟩) (fun k h7 h8 => ?_), fun k hk => ?_, h1⟩, RM_tc hM (lsM_tc L 0 (sw_up N 0 12 (nI 0)) (fun _ => 0) ⟨z_up_s _ _ _ _, fun i hi => absurd hi (Nat.not_lt_zero i)⟩) (fun k h0 h7 => ?_) (fun j hj => ?_), fun k hk => ?_, h2⟩
  · show 0 + L.length ≤ 16
    omega
  · rw [lsC_o h7 h8, asM_o _ _ h7]
  · rw [lsC_o (by omega) (by omega), asM_o _ _ (by omega)]
  · rw [lsM_o h0 h7, z_up_n _ _ h0]
  · rw [lsM_0 hj, z_up_j _ _ hj]
  · rw [lsM_o (by omega) (by omega), z_up_n _ _ (by omega)]
theorem k3 {d : Nat} {Q : Option Value → sw_Mem → Prop} (hV : IsV M 34 T) {r w : Nat} (hr : r < T 1) (h4 : T 1 ≤ 4) {M' : sw_Mem} {V : Int32} (h5 : ∀ d Q, sw_Cal (d + 15) 5 [.ref 107, .int (nI w), .int (nI 0)] (asM M r T) Q = Q (some (.int V)) M') : sw_Cal (d + 16) 3 [.ref 107, .ref 34, .int (nI r), .int (nI w)] M Q = Q (some (.int V)) M' := by
  obtain ⟨r1, r2, r3, r4, r5⟩ := hV.2.2.1 r hr
  have hv := hV.1
  rw [c3]
  unfold asM at h5
  simp (disch := omega) only [s3_0, s3_1, s3_2, s3_5, s3_6, s3_7, s3_10, s3_11, s3_12, s3_15, s3_16, s3_17, s3_20, s3_21, s3_22, s3_25, s3_26, s3_27, s3_30, s3_31, s3_32, s3_35, s3_36, s3_37, s3_40, s3_41, s3_42, s3_43, s3_46, z_lt_t, z_lt_f, z_le_t, z_le_f, z_lt0, z_ge0, z_cl, z_in, z_add, z_eq_f, z_ne0, z_00, z_10, z_01, z_11, z_neg1, z_nI_NONE, z_div, z_rem, z_rem2, sw_pu_s, sw_pu_n, true_and, and_true, true_or, or_true, if_true, if_false, not_true_eq_false, not_false_eq_true, r1, r2, r4, z_up_n, hv]
  simp only [h5, s3_0, s3_1, s3_2, s3_5, s3_6, s3_7, s3_10, s3_11, s3_12, s3_15, s3_16, s3_17, s3_20, s3_21, s3_22, s3_25, s3_26, s3_27, s3_30, s3_31, s3_32, s3_35, s3_36, s3_37, s3_40, s3_41, s3_42, s3_43, s3_46, z_lt_t, z_lt_f, z_le_t, z_le_f, z_lt0, z_ge0, z_cl, z_in, z_add, z_eq_f, z_ne0, z_00, z_10, z_01, z_11, z_neg1, z_nI_NONE, z_div, z_rem, z_rem2, sw_pu_s, sw_pu_n, true_and, and_true, true_or, or_true, if_true, if_false, not_true_eq_false, not_false_eq_true]
theorem o_ask (x w : Int32) : Opp 120 217 [.int x, .int w] := by
  intro d T I π ρ τ ft sv θ M N hO hC hM
  have hV := hC.1
  have hT := hM.1.1
  have hW := hO.1.1
  have w1 := hW.2.1
  have h63 := fun d Q => k63 (d := d) (Q := Q) hV hW x
  have h160 := fun d Q => k160 (d := d) (Q := Q) hT hW x
  by_cases b : sw_ib x (T 1)
  case neg =>
    have b := eq_false b
    refine Res_id hO hC hM (-1000001) (fun Q => ?_) (fun Q => ?_)
    · rw [c120]
      simp (disch := omega) only [s120_0, s120_1, s120_4, s120_5, s120_8, s120_11, s120_12, s120_15, s120_16, s120_17, s120_20, s120_22, s120_23, s120_24, s120_27, s120_28, s120_31, s120_32, s120_33, s120_36, z_lt_t, z_lt_f, z_le_t, z_le_f, z_lt0, z_ge0, z_cl, z_in, z_add, z_eq_f, z_ne0, z_00, z_10, z_01, z_11, z_neg1, z_nI_NONE, z_div, z_rem, z_rem2, sw_pu_s, sw_pu_n, true_and, and_true, true_or, or_true, if_true, if_false, not_true_eq_false, not_false_eq_true, h63, b]
    · rw [c217]
      simp (disch := omega) only [s217_0, s217_1, s217_2, s217_5, s217_8, s217_9, s217_10, s217_11, s217_12, s217_15, s217_18, s217_20, s217_21, s217_22, s217_23, s217_26, s217_27, s217_30, s217_31, s217_32, s217_35, s217_38, s217_39, s217_40, s217_41, s217_44, s217_47, s217_48, s217_49, s217_52, s217_55, s217_56, s217_57, s217_60, z_lt_t, z_lt_f, z_le_t, z_le_f, z_lt0, z_ge0, z_cl, z_in, z_add, z_eq_f, z_ne0, z_00, z_10, z_01, z_11, z_neg1, z_nI_NONE, z_div, z_rem, z_rem2, sw_pu_s, sw_pu_n, true_and, and_true, true_or, or_true, if_true, if_false, not_true_eq_false, not_false_eq_true, h160, b]
  have b1 := eq_true b
  simp only [b1, if_true] at h63 h160
  by_cases b2 : 0 ≤ w.toInt ∧ w.toInt < 2
  case neg =>
    refine Res_id hO hC hM (-1000001) (fun Q => ?_) (fun Q => ?_)
    · rw [c120]
      by_cases b3 : w.toInt < 0
      · simp (disch := omega) only [s120_0, s120_1, s120_4, s120_5, s120_8, s120_11, s120_12, s120_15, s120_16, s120_17, s120_20, s120_22, s120_23, s120_24, s120_27, s120_28, s120_31, s120_32, s120_33, s120_36, z_lt_t, z_lt_f, z_le_t, z_le_f, z_lt0, z_ge0, z_cl, z_in, z_add, z_eq_f, z_ne0, z_00, z_10, z_01, z_11, z_neg1, z_nI_NONE, z_div, z_rem, z_rem2, sw_pu_s, sw_pu_n, true_and, and_true, true_or, or_true, if_true, if_false, not_true_eq_false, not_false_eq_true, h63, z_ltI, z_gtI, z_leI, z_geI, z_lt0I, z_ge0I, z_gt0I, z_le0I, z_ibI, Int32.toInt_zero, ↓if_pos, ↓if_neg]
      · simp (disch := omega) only [s120_0, s120_1, s120_4, s120_5, s120_8, s120_11, s120_12, s120_15, s120_16, s120_17, s120_20, s120_22, s120_23, s120_24, s120_27, s120_28, s120_31, s120_32, s120_33, s120_36, z_lt_t, z_lt_f, z_le_t, z_le_f, z_lt0, z_ge0, z_cl, z_in, z_add, z_eq_f, z_ne0, z_00, z_10, z_01, z_11, z_neg1, z_nI_NONE, z_div, z_rem, z_rem2, sw_pu_s, sw_pu_n, true_and, and_true, true_or, or_true, if_true, if_false, not_true_eq_false, not_false_eq_true, h63, z_ltI, z_gtI, z_leI, z_geI, z_lt0I, z_ge0I, z_gt0I, z_le0I, z_ibI, Int32.toInt_zero, ↓if_pos, ↓if_neg]
    · rw [c217]
      simp (disch := omega) only [s217_0, s217_1, s217_2, s217_5, s217_8, s217_9, s217_10, s217_11, s217_12, s217_15, s217_18, s217_20, z_lt_t, z_lt_f, z_le_t, z_le_f, z_lt0, z_ge0, z_cl, z_in, z_add, z_eq_f, z_ne0, z_00, z_10, z_01, z_11, z_neg1, z_nI_NONE, z_div, z_rem, z_rem2, sw_pu_s, sw_pu_n, true_and, and_true, true_or, or_true, if_true, if_false, not_true_eq_false, not_false_eq_true, h160, k129, z_lT, z_xT, ↓if_pos, ↓if_neg]
  obtain ⟨r, hr, rfl⟩ := sw_ib_of b (by omega)
  obtain ⟨w', hw, rfl⟩ := sw_ib_of (x := w) (n := 2) (by rw [z_ibI]; omega) (by omega)
  have hK := hC.2.2.2.2.2.2.2.2
  have hA := asM_AS (T := T) hK r
  have y1 := (hW.2.2.2.2.2.1 r hr).1
  have y2 := (hW.2.2.2.2.2.1 r hr).2.1
  have hN : AM (sw_up N 0 12 (nI 0)) 0 r (T (21 + r)) (nI (T (25 + r))) (nI (T (29 + r))) := ⟨z_up_s _ _ _ _, by rw [z_up_n _ _ (by omega)]; exact hT.z _ (by omega), by rw [z_up_n _ _ (by omega)]; exact hT.z _ (by omega), by rw [z_up_n _ _ (by omega)]; exact hT.z _ (by omega)⟩
  rcases (show w' = 0 ∨ w' = 1 by omega) with rfl | rfl
  · have h3 := fun d Q => k3 (d := d) (Q := Q) (w := 0) hV hr w1 (fun d Q => k5s (d := d + 3) (Q := Q) hA (by omega) (show 0 ≤ 8 by omega) y2 y1)
    have h212 := fun d Q => k212 (d := d) (Q := Q) hN (by omega) (by omega) y2 y1
    refine ask_fin hO hC hM (r := r) (szL (T (21 + r))) (szV (T (21 + r)) (nI (T (25 + r))) (nI (T (29 + r))) (nI r)) ?_ (fun Q => ?_) (fun Q => ?_)
    · rcases (show T (21 + r) = 1 ∨ T (21 + r) = 2 ∨ T (21 + r) = 3 ∨ T (21 + r) = 4 ∨ T (21 + r) = 5 by omega) with e | e | e | e | e <;> rw [e] <;> decide
    · rw [c120]
      simp (disch := omega) only [s120_0, s120_1, s120_4, s120_5, s120_8, s120_11, s120_12, s120_15, s120_16, s120_17, s120_20, s120_22, s120_23, s120_24, s120_27, s120_28, s120_31, s120_32, s120_33, s120_36, z_lt_t, z_lt_f, z_le_t, z_le_f, z_lt0, z_ge0, z_cl, z_in, z_add, z_eq_f, z_ne0, z_00, z_10, z_01, z_11, z_neg1, z_nI_NONE, z_div, z_rem, z_rem2, sw_pu_s, sw_pu_n, true_and, and_true, true_or, or_true, if_true, if_false, not_true_eq_false, not_false_eq_true, h63, h3]
    · rw [c217]
      simp (disch := omega) only [s217_0, s217_1, s217_2, s217_5, s217_8, s217_9, s217_10, s217_11, s217_12, s217_15, s217_18, s217_20, s217_21, s217_22, s217_23, s217_26, s217_27, s217_30, s217_31, s217_32, s217_35, s217_38, s217_39, s217_40, s217_41, s217_44, s217_47, s217_48, s217_49, s217_52, s217_55, s217_56, s217_57, s217_60, z_lt_t, z_lt_f, z_le_t, z_le_f, z_lt0, z_ge0, z_cl, z_in, z_add, z_eq_f, z_ne0, z_00, z_10, z_01, z_11, z_neg1, z_nI_NONE, z_div, z_rem, z_rem2, sw_pu_s, sw_pu_n, true_and, and_true, true_or, or_true, if_true, if_false, not_true_eq_false, not_false_eq_true, h160, k129, z_lT, z_xT, z_TI, h212, ↓if_pos, ↓if_neg]
  · have e206 : IsM (sw_up N 0 12 (nI 0)) 0 T := IsM_c hT (fun j _ _ => by rw [z_up_n _ _ (by omega)])
    have h206 := fun d Q => k206 (d := d) (Q := Q) e206 hW hr (show 4 ≤ 5 by omega)
    by_cases hs : T (21 + r) ≤ 3
    · have eb : alB (T (21 + r)) 4 = false := by
        rcases (show T (21 + r) = 1 ∨ T (21 + r) = 2 ∨ T (21 + r) = 3 by omega) with e | e | e <;> rw [e] <;> rfl
      have h3 := fun d Q => k3 (d := d) (Q := Q) (w := 1) hV hr w1 (fun d Q => k5m (d := d + 8) (Q := Q) hA (by omega) (show 0 ≤ 10 by omega) y2 hs)
      have h215 := fun d Q => k215 (d := d) (Q := Q) hN (by omega) (by omega) y2 hs
      refine ask_fin hO hC hM (r := r) (mkL (T (21 + r))) (mkV (T (21 + r)) (nI (T (29 + r))) (nI r)) ?_ (fun Q => ?_) (fun Q => ?_)
      · rcases (show T (21 + r) = 1 ∨ T (21 + r) = 2 ∨ T (21 + r) = 3 by omega) with e | e | e <;> rw [e] <;> decide
      · rw [c120]
        simp (disch := omega) only [s120_0, s120_1, s120_4, s120_5, s120_8, s120_11, s120_12, s120_15, s120_16, s120_17, s120_20, s120_22, s120_23, s120_24, s120_27, s120_28, s120_31, s120_32, s120_33, s120_36, z_lt_t, z_lt_f, z_le_t, z_le_f, z_lt0, z_ge0, z_cl, z_in, z_add, z_eq_f, z_ne0, z_00, z_10, z_01, z_11, z_neg1, z_nI_NONE, z_div, z_rem, z_rem2, sw_pu_s, sw_pu_n, true_and, and_true, true_or, or_true, if_true, if_false, not_true_eq_false, not_false_eq_true, h63, h3]
      · rw [c217]
        simp (disch := omega) only [s217_0, s217_1, s217_2, s217_5, s217_8, s217_9, s217_10, s217_11, s217_12, s217_15, s217_18, s217_20, s217_21, s217_22, s217_23, s217_26, s217_27, s217_30, s217_31, s217_32, s217_35, s217_38, s217_39, s217_40, s217_41, s217_44, s217_47, s217_48, s217_49, s217_52, s217_55, s217_56, s217_57, s217_60, z_lt_t, z_lt_f, z_le_t, z_le_f, z_lt0, z_ge0, z_cl, z_in, z_add, z_eq_f, z_ne0, z_00, z_10, z_01, z_11, z_neg1, z_nI_NONE, z_div, z_rem, z_rem2, sw_pu_s, sw_pu_n, true_and, and_true, true_or, or_true, if_true, if_false, not_true_eq_false, not_false_eq_true, h160, k129, z_lT, z_xT, z_TI, h206, eb, h215, ↓if_pos, ↓if_neg, Bool.false_eq_true]
    · have eb : alB (T (21 + r)) 4 = true := by
        rcases (show T (21 + r) = 4 ∨ T (21 + r) = 5 by omega) with e | e <;> rw [e] <;> rfl
      have ebd : bd (T (21 + r)) 1 = 23 := by
        rcases (show T (21 + r) = 4 ∨ T (21 + r) = 5 by omega) with e | e <;> rw [e] <;> rfl
      have h5 : ∀ d Q, sw_Cal (d + 15) 5 [.ref 107, .int (nI 1), .int (nI 0)] (asM M r T) Q = Q (some (.int (nI r - szV (T (21 + r)) (nI (T (25 + r))) (nI (T (29 + r))) (nI r)))) (lsC ([23, 20] ++ szL (T (21 + r))) 0 (asM M r T)) := by
        intro d Q
        have h31 := fun d Q => k31 (d := d) (Q := Q) (w := 1) hA.2.2.2.2.2 y2 y1 (by omega)
        rw [ebd] at h31
        have hb := fun d Q => kb23 (d := d) (Q := Q) hA (by omega) (show 0 ≤ 7 by omega) y2 y1
        have f2 := hA.2.1
        rw [c5]
        simp (disch := omega) only [s5_0, s5_1, s5_2, s5_5, s5_6, s5_9, s5_10, s5_13, z_lt_t, z_lt_f, z_le_t, z_le_f, z_lt0, z_ge0, z_cl, z_in, z_add, z_eq_f, z_ne0, z_00, z_10, z_01, z_11, z_neg1, z_nI_NONE, z_div, z_rem, z_rem2, sw_pu_s, sw_pu_n, true_and, and_true, true_or, or_true, if_true, if_false, not_true_eq_false, not_false_eq_true, f2, h31, hb]
      have h3 := fun d Q => k3 (d := d) (Q := Q) (w := 1) hV hr w1 h5
      have h216 := fun d Q => k216 (d := d) (Q := Q) hN (by omega) (by omega) y2 y1
      refine ask_fin hO hC hM (r := r) ([23, 20] ++ szL (T (21 + r))) (nI r - szV (T (21 + r)) (nI (T (25 + r))) (nI (T (29 + r))) (nI r)) ?_ (fun Q => ?_) (fun Q => ?_)
      · rcases (show T (21 + r) = 4 ∨ T (21 + r) = 5 by omega) with e | e <;> rw [e] <;> decide
      · rw [c120]
        simp (disch := omega) only [s120_0, s120_1, s120_4, s120_5, s120_8, s120_11, s120_12, s120_15, s120_16, s120_17, s120_20, s120_22, s120_23, s120_24, s120_27, s120_28, s120_31, s120_32, s120_33, s120_36, z_lt_t, z_lt_f, z_le_t, z_le_f, z_lt0, z_ge0, z_cl, z_in, z_add, z_eq_f, z_ne0, z_00, z_10, z_01, z_11, z_neg1, z_nI_NONE, z_div, z_rem, z_rem2, sw_pu_s, sw_pu_n, true_and, and_true, true_or, or_true, if_true, if_false, not_true_eq_false, not_false_eq_true, h63, h3]
      · rw [c217]
        simp (disch := omega) only [s217_0, s217_1, s217_2, s217_5, s217_8, s217_9, s217_10, s217_11, s217_12, s217_15, s217_18, s217_20, s217_21, s217_22, s217_23, s217_26, s217_27, s217_30, s217_31, s217_32, s217_35, s217_38, s217_39, s217_40, s217_41, s217_44, s217_47, s217_48, s217_49, s217_52, s217_55, s217_56, s217_57, s217_60, z_lt_t, z_lt_f, z_le_t, z_le_f, z_lt0, z_ge0, z_cl, z_in, z_add, z_eq_f, z_ne0, z_00, z_10, z_01, z_11, z_neg1, z_nI_NONE, z_div, z_rem, z_rem2, sw_pu_s, sw_pu_n, true_and, and_true, true_or, or_true, if_true, if_false, not_true_eq_false, not_false_eq_true, h160, k129, z_lT, z_xT, z_TI, h206, eb, h216, ↓if_pos, ↓if_neg]
theorem o_as (x w : Int32) : Opp 119 207 [.int x, .int w] := by
  intro d T I π ρ τ ft sv θ M N hO hC hM
  have hV := hC.1
  have hT := hM.1.1
  have hW := hO.1.1
  have w1 := hW.2.1
  have h63 := fun d Q => k63 (d := d) (Q := Q) hV hW x
  have h160 := fun d Q => k160 (d := d) (Q := Q) hT hW x
  by_cases b : sw_ib x (T 1)
  case neg =>
    have b := eq_false b
    refine Res_id hO hC hM (-1000001) (fun Q => ?_) (fun Q => ?_)
    · rw [c119]
      simp (disch := omega) only [s119_0, s119_1, s119_4, s119_5, s119_8, s119_11, s119_12, s119_15, s119_18, s119_20, s119_21, s119_22, s119_25, s119_28, s119_29, s119_30, s119_31, s119_34, s119_37, s119_38, s119_39, s119_42, s119_45, s119_46, s119_47, s119_50, z_lt_t, z_lt_f, z_le_t, z_le_f, z_lt0, z_ge0, z_cl, z_in, z_add, z_eq_f, z_ne0, z_00, z_10, z_01, z_11, z_neg1, z_nI_NONE, z_div, z_rem, z_rem2, sw_pu_s, sw_pu_n, true_and, and_true, true_or, or_true, if_true, if_false, not_true_eq_false, not_false_eq_true, h63, b]
    · rw [c207]
      simp (disch := omega) only [s207_0, s207_1, s207_2, s207_5, s207_8, s207_9, s207_10, s207_11, s207_14, s207_17, s207_20, s207_22, s207_23, s207_24, s207_25, s207_26, s207_29, s207_32, s207_33, s207_34, s207_37, s207_40, s207_41, s207_42, s207_45, z_lt_t, z_lt_f, z_le_t, z_le_f, z_lt0, z_ge0, z_cl, z_in, z_add, z_eq_f, z_ne0, z_00, z_10, z_01, z_11, z_neg1, z_nI_NONE, z_div, z_rem, z_rem2, sw_pu_s, sw_pu_n, true_and, and_true, true_or, or_true, if_true, if_false, not_true_eq_false, not_false_eq_true, h160, b]
  have b1 := eq_true b
  simp only [b1, if_true] at h63 h160
  by_cases b2 : 0 ≤ w.toInt ∧ w.toInt < 6
  case neg =>
    refine Res_id hO hC hM (-1000001) (fun Q => ?_) (fun Q => ?_)
    · rw [c119]
      simp (disch := omega) only [s119_0, s119_1, s119_4, s119_5, s119_8, s119_11, s119_12, s119_15, s119_18, s119_20, s119_21, s119_22, s119_25, s119_28, s119_29, s119_30, s119_31, s119_34, s119_37, s119_38, s119_39, s119_42, s119_45, s119_46, s119_47, s119_50, z_lt_t, z_lt_f, z_le_t, z_le_f, z_lt0, z_ge0, z_cl, z_in, z_add, z_eq_f, z_ne0, z_00, z_10, z_01, z_11, z_neg1, z_nI_NONE, z_div, z_rem, z_rem2, sw_pu_s, sw_pu_n, true_and, and_true, true_or, or_true, if_true, if_false, not_true_eq_false, not_false_eq_true, h63, k28I, ↓if_pos, ↓if_neg]
    · rw [c207]
      simp (disch := omega) only [s207_0, s207_1, s207_2, s207_5, s207_8, s207_9, s207_10, s207_11, s207_14, s207_17, s207_20, s207_22, s207_23, s207_24, s207_25, s207_26, s207_29, s207_32, s207_33, s207_34, s207_37, s207_40, s207_41, s207_42, s207_45, z_lt_t, z_lt_f, z_le_t, z_le_f, z_lt0, z_ge0, z_cl, z_in, z_add, z_eq_f, z_ne0, z_00, z_10, z_01, z_11, z_neg1, z_nI_NONE, z_div, z_rem, z_rem2, sw_pu_s, sw_pu_n, true_and, and_true, true_or, or_true, if_true, if_false, not_true_eq_false, not_false_eq_true, h160, k129, z_lT, z_xT, ↓if_pos, ↓if_neg]
  obtain ⟨r, hr, rfl⟩ := sw_ib_of b (by omega)
  obtain ⟨w', hw, rfl⟩ := sw_ib_of (x := w) (n := 6) (by rw [z_ibI]; omega) (by omega)
  have hK := hC.2.2.2.2.2.2.2.2
  have y1 := (hW.2.2.2.2.2.1 r hr).1
  have y2 := (hW.2.2.2.2.2.1 r hr).2.1
  have e1 := (hV.2.2.1 r hr).2.2.2.1
  have h30 := fun d Q => k30 (d := d) (Q := Q) hK y2 y1 (show w' ≤ 5 by omega)
  have h206 := fun d Q => k206 (d := d) (Q := Q) hT hW hr (show w' ≤ 5 by omega)
  cases ha : alB (T (21 + r)) w' with
  | true =>
    refine Res_sv hO hC hM (nI r) (nI 0) (fun Q => ?_) (fun Q => ?_)
    · rw [c119]
      simp (disch := omega) only [s119_0, s119_1, s119_4, s119_5, s119_8, s119_11, s119_12, s119_15, s119_18, s119_20, s119_21, s119_22, s119_25, s119_28, s119_29, s119_30, s119_31, s119_34, s119_37, s119_38, s119_39, s119_42, s119_45, s119_46, s119_47, s119_50, z_lt_t, z_lt_f, z_le_t, z_le_f, z_lt0, z_ge0, z_cl, z_in, z_add, z_eq_f, z_ne0, z_00, z_10, z_01, z_11, z_neg1, z_nI_NONE, z_div, z_rem, z_rem2, sw_pu_s, sw_pu_n, true_and, and_true, true_or, or_true, if_true, if_false, not_true_eq_false, not_false_eq_true, h63, k28, e1, h30, ha, k125, ↓if_pos, ↓if_neg]
    · rw [c207]
      simp (disch := omega) only [s207_0, s207_1, s207_2, s207_5, s207_8, s207_9, s207_10, s207_11, s207_14, s207_17, s207_20, s207_22, s207_23, s207_24, s207_25, s207_26, s207_29, s207_32, s207_33, s207_34, s207_37, s207_40, s207_41, s207_42, s207_45, z_lt_t, z_lt_f, z_le_t, z_le_f, z_lt0, z_ge0, z_cl, z_in, z_add, z_eq_f, z_ne0, z_00, z_10, z_01, z_11, z_neg1, z_nI_NONE, z_div, z_rem, z_rem2, sw_pu_s, sw_pu_n, true_and, and_true, true_or, or_true, if_true, if_false, not_true_eq_false, not_false_eq_true, h160, k129, z_lT, z_xT, z_TI, h206, ha, k134, ↓if_pos, ↓if_neg]
  | false =>
    refine Res_sv hO hC hM (-1000010 - nI 3) (nI 3) (fun Q => ?_) (fun Q => ?_)
    · rw [c119]
      simp (disch := omega) only [s119_0, s119_1, s119_4, s119_5, s119_8, s119_11, s119_12, s119_15, s119_18, s119_20, s119_21, s119_22, s119_25, s119_28, s119_29, s119_30, s119_31, s119_34, s119_37, s119_38, s119_39, s119_42, s119_45, s119_46, s119_47, s119_50, z_lt_t, z_lt_f, z_le_t, z_le_f, z_lt0, z_ge0, z_cl, z_in, z_add, z_eq_f, z_ne0, z_00, z_10, z_01, z_11, z_neg1, z_nI_NONE, z_div, z_rem, z_rem2, sw_pu_s, sw_pu_n, true_and, and_true, true_or, or_true, if_true, if_false, not_true_eq_false, not_false_eq_true, h63, k28, e1, h30, ha, k124, ↓if_pos, ↓if_neg, Bool.false_eq_true]
    · rw [c207]
      simp (disch := omega) only [s207_0, s207_1, s207_2, s207_5, s207_8, s207_9, s207_10, s207_11, s207_14, s207_17, s207_20, s207_22, s207_23, s207_24, s207_25, s207_26, s207_29, s207_32, s207_33, s207_34, s207_37, s207_40, s207_41, s207_42, s207_45, z_lt_t, z_lt_f, z_le_t, z_le_f, z_lt0, z_ge0, z_cl, z_in, z_add, z_eq_f, z_ne0, z_00, z_10, z_01, z_11, z_neg1, z_nI_NONE, z_div, z_rem, z_rem2, sw_pu_s, sw_pu_n, true_and, and_true, true_or, or_true, if_true, if_false, not_true_eq_false, not_false_eq_true, h160, k129, z_lT, z_xT, z_TI, h206, ha, k133, ↓if_pos, ↓if_neg, Bool.false_eq_true]
theorem k220L {d : Nat} (x : Int32) {Q : Option Value → sw_Mem → Prop} (h : MRw ρ M) (ho : ORw ρ) : ∀ n r, r + n = 8 → sw_WP d 220 50 [.ref 0, .int x, .int (nI (hmT ρ.2.1 r)), .int (nI r)] [] M Q = Q (some (.int (nI (hmT ρ.2.1 8)))) M := by
  intro n
  induction n with
  | zero =>
    intro r hr
    obtain rfl : r = 8 := by omega
    refine (s220_50 ..).trans ?_
    simp (disch := omega) only [s220_0, s220_1, s220_2, s220_3, s220_48, s220_49, s220_51, s220_53, s220_56, s220_57, s220_58, s220_61, s220_62, s220_63, s220_66, s220_67, s220_70, s220_71, s220_72, s220_73, s220_76, s220_79, s220_80, s220_81, s220_82, s220_85, s220_86, s220_87, s220_88, s220_89, s220_92, s220_93, s220_94, s220_95, s220_96, s220_99, s220_100, s220_101, s220_102, s220_103, s220_104, s220_107, s220_108, s220_109, s220_112, s220_113, s220_114, s220_117, s220_118, s220_119, s220_122, s220_123, s220_125, z_lt_t, z_lt_f, z_le_t, z_le_f, z_lt0, z_ge0, z_cl, z_in, z_add, z_eq_f, z_ne0, z_00, z_10, z_01, z_11, z_neg1, z_nI_NONE, z_div, z_rem, z_rem2, sw_pu_s, sw_pu_n, true_and, and_true, true_or, or_true, if_true, if_false, not_true_eq_false, not_false_eq_true]
  | succ n ih =>
    intro r hr
    obtain ⟨g1, g2, g3⟩ := h r (by omega)
    have o2 := ho r (by omega)
    have := ih (r + 1) (by omega)
    have e : hmT ρ.2.1 (r + 1) = hmT ρ.2.1 r + (if ρ.2.1 r = 0 then 0 else 1) := rfl
    rw [e] at this
    refine (s220_50 ..).trans ?_
    by_cases c : ρ.2.1 r = 0
    · rw [if_pos c] at this
      simp (disch := omega) only [s220_0, s220_1, s220_2, s220_3, s220_48, s220_49, s220_51, s220_53, s220_56, s220_57, s220_58, s220_61, s220_62, s220_63, s220_66, s220_67, s220_70, s220_71, s220_72, s220_73, s220_76, s220_79, s220_80, s220_81, s220_82, s220_85, s220_86, s220_87, s220_88, s220_89, s220_92, s220_93, s220_94, s220_95, s220_96, s220_99, s220_100, s220_101, s220_102, s220_103, s220_104, s220_107, s220_108, s220_109, s220_112, s220_113, s220_114, s220_117, s220_118, s220_119, s220_122, s220_123, s220_125, z_lt_t, z_lt_f, z_le_t, z_le_f, z_lt0, z_ge0, z_cl, z_in, z_add, z_eq_f, z_ne0, z_00, z_10, z_01, z_11, z_neg1, z_nI_NONE, z_div, z_rem, z_rem2, sw_pu_s, sw_pu_n, true_and, and_true, true_or, or_true, if_true, if_false, not_true_eq_false, not_false_eq_true, g2, z_szvg, c, this]
    · rw [if_neg c] at this
      simp (disch := omega) only [s220_0, s220_1, s220_2, s220_3, s220_48, s220_49, s220_51, s220_53, s220_56, s220_57, s220_58, s220_61, s220_62, s220_63, s220_66, s220_67, s220_70, s220_71, s220_72, s220_73, s220_76, s220_79, s220_80, s220_81, s220_82, s220_85, s220_86, s220_87, s220_88, s220_89, s220_92, s220_93, s220_94, s220_95, s220_96, s220_99, s220_100, s220_101, s220_102, s220_103, s220_104, s220_107, s220_108, s220_109, s220_112, s220_113, s220_114, s220_117, s220_118, s220_119, s220_122, s220_123, s220_125, z_lt_t, z_lt_f, z_le_t, z_le_f, z_lt0, z_ge0, z_cl, z_in, z_add, z_eq_f, z_ne0, z_00, z_10, z_01, z_11, z_neg1, z_nI_NONE, z_div, z_rem, z_rem2, sw_pu_s, sw_pu_n, true_and, and_true, true_or, or_true, if_true, if_false, not_true_eq_false, not_false_eq_true, g2, z_szvg, c, this]
theorem o_count (w : Int32) : Opp 122 220 [.int w] := by
  intro d T I π ρ τ ft sv θ M N hO hC hM
  have hV := hC.1
  have hT := hM.1.1
  have hW := hO.1.1
  have hF := hO.1.2.1
  have h9 := hO.1.2.2.1
  have h52 := fun d Q => k52 (d := d) (Q := Q) hC.2.2.2.1 hO.2.2.2.1
  have hL := fun d Q => k220L (d := d) (Q := Q) w hM.2.2.2.1 hO.2.2.2.1 8 0 (by omega)
  rw [show hmT ρ.2.1 0 = 0 from rfl] at hL
  obtain ⟨hv, ⟨-, -, g2, g3, g4⟩, -, -⟩ := hV
  have hV := hC.1
  have m0 := hT.z 0 (by omega)
  have m1 := hT.z 1 (by omega)
  have m4 := hT.z 4 (by omega)
  have h76 := fun d Q => k76 (d := d) (Q := Q) hV hW hF (by omega)
  have h167 := fun d Q => k167 (d := d) (Q := Q) hT hW (by omega) hF (by omega)
  have h75 := fun d Q => k75 (d := d) (Q := Q) hV hW
  have h219 := fun d Q => k219 (d := d) (Q := Q) hT hW
  have p1 := hC.2.2.1.1
  have p2 := hM.2.2.1.1
  have t1 := hC.2.2.2.2.1.1
  have t2 := hM.2.2.2.2.1.1
  rcases (show w.toInt = 0 ∨ w.toInt = 1 ∨ w.toInt = 2 ∨ w.toInt = 3 ∨ w.toInt = 4 ∨ w.toInt = 5 ∨ w.toInt = 6 ∨ w.toInt = 7 ∨ (w.toInt < 0 ∨ 7 < w.toInt) by omega) with h | h | h | h | h | h | h | h | h
  · refine Res_id hO hC hM (nI (hmT ρ.2.1 8)) (fun Q => ?_) (fun Q => ?_)
    · rw [c122]
      simp (disch := omega) only [s122_0, s122_1, s122_48, s122_49, s122_52, s122_55, s122_56, s122_57, s122_60, s122_63, s122_64, s122_65, s122_68, s122_71, s122_72, s122_73, s122_76, s122_79, s122_80, s122_81, s122_84, s122_87, s122_88, s122_89, s122_92, s122_95, s122_96, s122_97, s122_100, s122_103, s122_104, s122_105, s122_108, s122_111, s122_114, s122_115, s122_117, z_lt_t, z_lt_f, z_le_t, z_le_f, z_lt0, z_ge0, z_cl, z_in, z_add, z_eq_f, z_ne0, z_00, z_10, z_01, z_11, z_neg1, z_nI_NONE, z_div, z_rem, z_rem2, sw_pu_s, sw_pu_n, true_and, and_true, true_or, or_true, if_true, if_false, not_true_eq_false, not_false_eq_true, h52, z_pk_s, z_pk_n, ↓if_pos, ↓if_neg]
    · rw [c220]
      simp (disch := omega) only [s220_0, s220_1, s220_2, s220_3, s220_48, s220_49, z_lt_t, z_lt_f, z_le_t, z_le_f, z_lt0, z_ge0, z_cl, z_in, z_add, z_eq_f, z_ne0, z_00, z_10, z_01, z_11, z_neg1, z_nI_NONE, z_div, z_rem, z_rem2, sw_pu_s, sw_pu_n, true_and, and_true, true_or, or_true, if_true, if_false, not_true_eq_false, not_false_eq_true, hL, z_pk_s, z_pk_n, ↓if_pos, ↓if_neg]
  · refine Res_id hO hC hM (nI (T 0)) (fun Q => ?_) (fun Q => ?_)
    · rw [c122]
      simp (disch := omega) only [s122_0, s122_1, s122_48, s122_49, s122_52, s122_55, s122_56, s122_57, s122_60, s122_63, s122_64, s122_65, s122_68, s122_71, s122_72, s122_73, s122_76, s122_79, s122_80, s122_81, s122_84, s122_87, s122_88, s122_89, s122_92, s122_95, s122_96, s122_97, s122_100, s122_103, s122_104, s122_105, s122_108, s122_111, s122_114, s122_115, s122_117, z_lt_t, z_lt_f, z_le_t, z_le_f, z_lt0, z_ge0, z_cl, z_in, z_add, z_eq_f, z_ne0, z_00, z_10, z_01, z_11, z_neg1, z_nI_NONE, z_div, z_rem, z_rem2, sw_pu_s, sw_pu_n, true_and, and_true, true_or, or_true, if_true, if_false, not_true_eq_false, not_false_eq_true, g3, z_pk_s, z_pk_n, ↓if_pos, ↓if_neg]
    · rw [c220]
      simp (disch := omega) only [s220_0, s220_1, s220_2, s220_3, s220_48, s220_49, s220_51, s220_53, s220_56, s220_57, s220_58, s220_61, s220_62, s220_63, s220_66, s220_67, s220_70, s220_71, s220_72, s220_73, s220_76, s220_79, s220_80, s220_81, s220_82, s220_85, s220_86, s220_87, s220_88, s220_89, s220_92, s220_93, s220_94, s220_95, s220_96, s220_99, s220_100, s220_101, s220_102, s220_103, s220_104, s220_107, s220_108, s220_109, s220_112, s220_113, s220_114, s220_117, s220_118, s220_119, s220_122, s220_123, s220_125, z_lt_t, z_lt_f, z_le_t, z_le_f, z_lt0, z_ge0, z_cl, z_in, z_add, z_eq_f, z_ne0, z_00, z_10, z_01, z_11, z_neg1, z_nI_NONE, z_div, z_rem, z_rem2, sw_pu_s, sw_pu_n, true_and, and_true, true_or, or_true, if_true, if_false, not_true_eq_false, not_false_eq_true, m0, z_pk_s, z_pk_n, ↓if_pos, ↓if_neg]
  · refine Res_id hO hC hM (nI (T 1)) (fun Q => ?_) (fun Q => ?_)
    · rw [c122]
      simp (disch := omega) only [s122_0, s122_1, s122_48, s122_49, s122_52, s122_55, s122_56, s122_57, s122_60, s122_63, s122_64, s122_65, s122_68, s122_71, s122_72, s122_73, s122_76, s122_79, s122_80, s122_81, s122_84, s122_87, s122_88, s122_89, s122_92, s122_95, s122_96, s122_97, s122_100, s122_103, s122_104, s122_105, s122_108, s122_111, s122_114, s122_115, s122_117, z_lt_t, z_lt_f, z_le_t, z_le_f, z_lt0, z_ge0, z_cl, z_in, z_add, z_eq_f, z_ne0, z_00, z_10, z_01, z_11, z_neg1, z_nI_NONE, z_div, z_rem, z_rem2, sw_pu_s, sw_pu_n, true_and, and_true, true_or, or_true, if_true, if_false, not_true_eq_false, not_false_eq_true, g4, z_pk_s, z_pk_n, ↓if_pos, ↓if_neg]
    · rw [c220]
      simp (disch := omega) only [s220_0, s220_1, s220_2, s220_3, s220_48, s220_49, s220_51, s220_53, s220_56, s220_57, s220_58, s220_61, s220_62, s220_63, s220_66, s220_67, s220_70, s220_71, s220_72, s220_73, s220_76, s220_79, s220_80, s220_81, s220_82, s220_85, s220_86, s220_87, s220_88, s220_89, s220_92, s220_93, s220_94, s220_95, s220_96, s220_99, s220_100, s220_101, s220_102, s220_103, s220_104, s220_107, s220_108, s220_109, s220_112, s220_113, s220_114, s220_117, s220_118, s220_119, s220_122, s220_123, s220_125, z_lt_t, z_lt_f, z_le_t, z_le_f, z_lt0, z_ge0, z_cl, z_in, z_add, z_eq_f, z_ne0, z_00, z_10, z_01, z_11, z_neg1, z_nI_NONE, z_div, z_rem, z_rem2, sw_pu_s, sw_pu_n, true_and, and_true, true_or, or_true, if_true, if_false, not_true_eq_false, not_false_eq_true, m1, z_pk_s, z_pk_n, ↓if_pos, ↓if_neg]
  · refine Res_id hO hC hM (nI (T 4)) (fun Q => ?_) (fun Q => ?_)
    · rw [c122]
      simp (disch := omega) only [s122_0, s122_1, s122_48, s122_49, s122_52, s122_55, s122_56, s122_57, s122_60, s122_63, s122_64, s122_65, s122_68, s122_71, s122_72, s122_73, s122_76, s122_79, s122_80, s122_81, s122_84, s122_87, s122_88, s122_89, s122_92, s122_95, s122_96, s122_97, s122_100, s122_103, s122_104, s122_105, s122_108, s122_111, s122_114, s122_115, s122_117, z_lt_t, z_lt_f, z_le_t, z_le_f, z_lt0, z_ge0, z_cl, z_in, z_add, z_eq_f, z_ne0, z_00, z_10, z_01, z_11, z_neg1, z_nI_NONE, z_div, z_rem, z_rem2, sw_pu_s, sw_pu_n, true_and, and_true, true_or, or_true, if_true, if_false, not_true_eq_false, not_false_eq_true, g2, z_pk_s, z_pk_n, ↓if_pos, ↓if_neg]
    · rw [c220]
      simp (disch := omega) only [s220_0, s220_1, s220_2, s220_3, s220_48, s220_49, s220_51, s220_53, s220_56, s220_57, s220_58, s220_61, s220_62, s220_63, s220_66, s220_67, s220_70, s220_71, s220_72, s220_73, s220_76, s220_79, s220_80, s220_81, s220_82, s220_85, s220_86, s220_87, s220_88, s220_89, s220_92, s220_93, s220_94, s220_95, s220_96, s220_99, s220_100, s220_101, s220_102, s220_103, s220_104, s220_107, s220_108, s220_109, s220_112, s220_113, s220_114, s220_117, s220_118, s220_119, s220_122, s220_123, s220_125, z_lt_t, z_lt_f, z_le_t, z_le_f, z_lt0, z_ge0, z_cl, z_in, z_add, z_eq_f, z_ne0, z_00, z_10, z_01, z_11, z_neg1, z_nI_NONE, z_div, z_rem, z_rem2, sw_pu_s, sw_pu_n, true_and, and_true, true_or, or_true, if_true, if_false, not_true_eq_false, not_false_eq_true, m4, z_pk_s, z_pk_n, ↓if_pos, ↓if_neg]
  · refine Res_id hO hC hM (nI (flT T (T 0))) (fun Q => ?_) (fun Q => ?_)
    · rw [c122]
      simp (disch := omega) only [s122_0, s122_1, s122_48, s122_49, s122_52, s122_55, s122_56, s122_57, s122_60, s122_63, s122_64, s122_65, s122_68, s122_71, s122_72, s122_73, s122_76, s122_79, s122_80, s122_81, s122_84, s122_87, s122_88, s122_89, s122_92, s122_95, s122_96, s122_97, s122_100, s122_103, s122_104, s122_105, s122_108, s122_111, s122_114, s122_115, s122_117, z_lt_t, z_lt_f, z_le_t, z_le_f, z_lt0, z_ge0, z_cl, z_in, z_add, z_eq_f, z_ne0, z_00, z_10, z_01, z_11, z_neg1, z_nI_NONE, z_div, z_rem, z_rem2, sw_pu_s, sw_pu_n, true_and, and_true, true_or, or_true, if_true, if_false, not_true_eq_false, not_false_eq_true, h76, z_pk_s, z_pk_n, ↓if_pos, ↓if_neg]
    · rw [c220]
      simp (disch := omega) only [s220_0, s220_1, s220_2, s220_3, s220_48, s220_49, s220_51, s220_53, s220_56, s220_57, s220_58, s220_61, s220_62, s220_63, s220_66, s220_67, s220_70, s220_71, s220_72, s220_73, s220_76, s220_79, s220_80, s220_81, s220_82, s220_85, s220_86, s220_87, s220_88, s220_89, s220_92, s220_93, s220_94, s220_95, s220_96, s220_99, s220_100, s220_101, s220_102, s220_103, s220_104, s220_107, s220_108, s220_109, s220_112, s220_113, s220_114, s220_117, s220_118, s220_119, s220_122, s220_123, s220_125, z_lt_t, z_lt_f, z_le_t, z_le_f, z_lt0, z_ge0, z_cl, z_in, z_add, z_eq_f, z_ne0, z_00, z_10, z_01, z_11, z_neg1, z_nI_NONE, z_div, z_rem, z_rem2, sw_pu_s, sw_pu_n, true_and, and_true, true_or, or_true, if_true, if_false, not_true_eq_false, not_false_eq_true, h167, z_pk_s, z_pk_n, ↓if_pos, ↓if_neg]
  · refine Res_id hO hC hM (nI (lyT T (T 1))) (fun Q => ?_) (fun Q => ?_)
    · rw [c122]
      simp (disch := omega) only [s122_0, s122_1, s122_48, s122_49, s122_52, s122_55, s122_56, s122_57, s122_60, s122_63, s122_64, s122_65, s122_68, s122_71, s122_72, s122_73, s122_76, s122_79, s122_80, s122_81, s122_84, s122_87, s122_88, s122_89, s122_92, s122_95, s122_96, s122_97, s122_100, s122_103, s122_104, s122_105, s122_108, s122_111, s122_114, s122_115, s122_117, z_lt_t, z_lt_f, z_le_t, z_le_f, z_lt0, z_ge0, z_cl, z_in, z_add, z_eq_f, z_ne0, z_00, z_10, z_01, z_11, z_neg1, z_nI_NONE, z_div, z_rem, z_rem2, sw_pu_s, sw_pu_n, true_and, and_true, true_or, or_true, if_true, if_false, not_true_eq_false, not_false_eq_true, h75, z_pk_s, z_pk_n, ↓if_pos, ↓if_neg]
    · rw [c220]
      simp (disch := omega) only [s220_0, s220_1, s220_2, s220_3, s220_48, s220_49, s220_51, s220_53, s220_56, s220_57, s220_58, s220_61, s220_62, s220_63, s220_66, s220_67, s220_70, s220_71, s220_72, s220_73, s220_76, s220_79, s220_80, s220_81, s220_82, s220_85, s220_86, s220_87, s220_88, s220_89, s220_92, s220_93, s220_94, s220_95, s220_96, s220_99, s220_100, s220_101, s220_102, s220_103, s220_104, s220_107, s220_108, s220_109, s220_112, s220_113, s220_114, s220_117, s220_118, s220_119, s220_122, s220_123, s220_125, z_lt_t, z_lt_f, z_le_t, z_le_f, z_lt0, z_ge0, z_cl, z_in, z_add, z_eq_f, z_ne0, z_00, z_10, z_01, z_11, z_neg1, z_nI_NONE, z_div, z_rem, z_rem2, sw_pu_s, sw_pu_n, true_and, and_true, true_or, or_true, if_true, if_false, not_true_eq_false, not_false_eq_true, h219, z_pk_s, z_pk_n, ↓if_pos, ↓if_neg]
  · refine Res_id hO hC hM (nI π.2) (fun Q => ?_) (fun Q => ?_)
    · rw [c122]
      simp (disch := omega) only [s122_0, s122_1, s122_48, s122_49, s122_52, s122_55, s122_56, s122_57, s122_60, s122_63, s122_64, s122_65, s122_68, s122_71, s122_72, s122_73, s122_76, s122_79, s122_80, s122_81, s122_84, s122_87, s122_88, s122_89, s122_92, s122_95, s122_96, s122_97, s122_100, s122_103, s122_104, s122_105, s122_108, s122_111, s122_114, s122_115, s122_117, z_lt_t, z_lt_f, z_le_t, z_le_f, z_lt0, z_ge0, z_cl, z_in, z_add, z_eq_f, z_ne0, z_00, z_10, z_01, z_11, z_neg1, z_nI_NONE, z_div, z_rem, z_rem2, sw_pu_s, sw_pu_n, true_and, and_true, true_or, or_true, if_true, if_false, not_true_eq_false, not_false_eq_true, p1, z_pk_s, z_pk_n, ↓if_pos, ↓if_neg]
    · rw [c220]
      simp (disch := omega) only [s220_0, s220_1, s220_2, s220_3, s220_48, s220_49, s220_51, s220_53, s220_56, s220_57, s220_58, s220_61, s220_62, s220_63, s220_66, s220_67, s220_70, s220_71, s220_72, s220_73, s220_76, s220_79, s220_80, s220_81, s220_82, s220_85, s220_86, s220_87, s220_88, s220_89, s220_92, s220_93, s220_94, s220_95, s220_96, s220_99, s220_100, s220_101, s220_102, s220_103, s220_104, s220_107, s220_108, s220_109, s220_112, s220_113, s220_114, s220_117, s220_118, s220_119, s220_122, s220_123, s220_125, z_lt_t, z_lt_f, z_le_t, z_le_f, z_lt0, z_ge0, z_cl, z_in, z_add, z_eq_f, z_ne0, z_00, z_10, z_01, z_11, z_neg1, z_nI_NONE, z_div, z_rem, z_rem2, sw_pu_s, sw_pu_n, true_and, and_true, true_or, or_true, if_true, if_false, not_true_eq_false, not_false_eq_true, p2, z_pk_s, z_pk_n, ↓if_pos, ↓if_neg]
  · refine Res_id hO hC hM (nI τ.2) (fun Q => ?_) (fun Q => ?_)
    · rw [c122]
      simp (disch := omega) only [s122_0, s122_1, s122_48, s122_49, s122_52, s122_55, s122_56, s122_57, s122_60, s122_63, s122_64, s122_65, s122_68, s122_71, s122_72, s122_73, s122_76, s122_79, s122_80, s122_81, s122_84, s122_87, s122_88, s122_89, s122_92, s122_95, s122_96, s122_97, s122_100, s122_103, s122_104, s122_105, s122_108, s122_111, s122_114, s122_115, s122_117, z_lt_t, z_lt_f, z_le_t, z_le_f, z_lt0, z_ge0, z_cl, z_in, z_add, z_eq_f, z_ne0, z_00, z_10, z_01, z_11, z_neg1, z_nI_NONE, z_div, z_rem, z_rem2, sw_pu_s, sw_pu_n, true_and, and_true, true_or, or_true, if_true, if_false, not_true_eq_false, not_false_eq_true, t1, z_pk_s, z_pk_n, ↓if_pos, ↓if_neg]
    · rw [c220]
      simp (disch := omega) only [s220_0, s220_1, s220_2, s220_3, s220_48, s220_49, s220_51, s220_53, s220_56, s220_57, s220_58, s220_61, s220_62, s220_63, s220_66, s220_67, s220_70, s220_71, s220_72, s220_73, s220_76, s220_79, s220_80, s220_81, s220_82, s220_85, s220_86, s220_87, s220_88, s220_89, s220_92, s220_93, s220_94, s220_95, s220_96, s220_99, s220_100, s220_101, s220_102, s220_103, s220_104, s220_107, s220_108, s220_109, s220_112, s220_113, s220_114, s220_117, s220_118, s220_119, s220_122, s220_123, s220_125, z_lt_t, z_lt_f, z_le_t, z_le_f, z_lt0, z_ge0, z_cl, z_in, z_add, z_eq_f, z_ne0, z_00, z_10, z_01, z_11, z_neg1, z_nI_NONE, z_div, z_rem, z_rem2, sw_pu_s, sw_pu_n, true_and, and_true, true_or, or_true, if_true, if_false, not_true_eq_false, not_false_eq_true, t2, z_pk_s, z_pk_n, ↓if_pos, ↓if_neg]
  · refine Res_id hO hC hM (-1000001) (fun Q => ?_) (fun Q => ?_)
    · rw [c122]
      simp (disch := omega) only [s122_0, s122_1, s122_48, s122_49, s122_52, s122_55, s122_56, s122_57, s122_60, s122_63, s122_64, s122_65, s122_68, s122_71, s122_72, s122_73, s122_76, s122_79, s122_80, s122_81, s122_84, s122_87, s122_88, s122_89, s122_92, s122_95, s122_96, s122_97, s122_100, s122_103, s122_104, s122_105, s122_108, s122_111, s122_114, s122_115, s122_117, z_lt_t, z_lt_f, z_le_t, z_le_f, z_lt0, z_ge0, z_cl, z_in, z_add, z_eq_f, z_ne0, z_00, z_10, z_01, z_11, z_neg1, z_nI_NONE, z_div, z_rem, z_rem2, sw_pu_s, sw_pu_n, true_and, and_true, true_or, or_true, if_true, if_false, not_true_eq_false, not_false_eq_true, z_pk_n, z_pk_s, z_pk_n, ↓if_pos, ↓if_neg]
    · rw [c220]
      simp (disch := omega) only [s220_0, s220_1, s220_2, s220_3, s220_48, s220_49, s220_51, s220_53, s220_56, s220_57, s220_58, s220_61, s220_62, s220_63, s220_66, s220_67, s220_70, s220_71, s220_72, s220_73, s220_76, s220_79, s220_80, s220_81, s220_82, s220_85, s220_86, s220_87, s220_88, s220_89, s220_92, s220_93, s220_94, s220_95, s220_96, s220_99, s220_100, s220_101, s220_102, s220_103, s220_104, s220_107, s220_108, s220_109, s220_112, s220_113, s220_114, s220_117, s220_118, s220_119, s220_122, s220_123, s220_125, z_lt_t, z_lt_f, z_le_t, z_le_f, z_lt0, z_ge0, z_cl, z_in, z_add, z_eq_f, z_ne0, z_00, z_10, z_01, z_11, z_neg1, z_nI_NONE, z_div, z_rem, z_rem2, sw_pu_s, sw_pu_n, true_and, and_true, true_or, or_true, if_true, if_false, not_true_eq_false, not_false_eq_true, z_pk_n, z_pk_s, z_pk_n, ↓if_pos, ↓if_neg]
end OPE
