/-! the calls: of the class and of the model together -/
def Res (d c m : Nat) (as : List Value) (M N : sw_Mem) : Prop :=
  ∃ (T : Tw) (I : Nat → Tw) (π : Ps) (ρ : Rw) (τ : Tp) (ft sv : Int32) (θ : Tc) (r : Int32) (M1 N1 : sw_Mem), OK T I π ρ τ θ ∧
    (RC T I π ρ τ ft sv θ M1 ∧ noM M M1 ∧ ∀ Q, sw_Cal (d + 20) c (.ref 11 :: as) M Q = Q (some (.int r)) M1) ∧
    (RM T I π ρ τ ft sv θ N1 ∧ noC N N1 ∧ ∀ Q, sw_Cal (d + 20) m (.ref 0 :: as) N Q = Q (some (.int r)) N1)
def Opp (c m : Nat) (as : List Value) : Prop := ∀ (d : Nat) (T : Tw) (I : Nat → Tw) (π : Ps) (ρ : Rw) (τ : Tp) (ft sv : Int32) (θ : Tc) (M N : sw_Mem), OK T I π ρ τ θ → RC T I π ρ τ ft sv θ M → RM T I π ρ τ ft sv θ N → Res d c m as M N
section OPA
variable {T : Tw} {I : Nat → Tw} {π : Ps} {ρ : Rw} {τ : Tp} {ft sv : Int32} {θ : Tc} {M N : sw_Mem} {d c m : Nat} {as : List Value}
/-- nothing changes that lasts -/
theorem Res_id (hO : OK T I π ρ τ θ) (hC : RC T I π ρ τ ft sv θ M) (hM : RM T I π ρ τ ft sv θ N) (r : Int32) (h1 : ∀ Q, sw_Cal (d + 20) c (.ref 11 :: as) M Q = Q (some (.int r)) M) (h2 : ∀ Q, sw_Cal (d + 20) m (.ref 0 :: as) N Q = Q (some (.int r)) N) : Res d c m as M N :=
  ⟨T, I, π, ρ, τ, ft, sv, θ, r, M, N, hO, ⟨hC, noM.rf, h1⟩, hM, noC.rf, h2⟩
/-- what is found -/
theorem Res_sv (hO : OK T I π ρ τ θ) (hC : RC T I π ρ τ ft sv θ M) (hM : RM T I π ρ τ ft sv θ N) (r w : Int32) (h1 : ∀ Q, sw_Cal (d + 20) c (.ref 11 :: as) M Q = Q (some (.int r)) (sw_up M 11 9 w)) (h2 : ∀ Q, sw_Cal (d + 20) m (.ref 0 :: as) N Q = Q (some (.int r)) (sw_up N 0 10 w)) : Res d c m as M N :=
  ⟨T, I, π, ρ, τ, ft, w, θ, r, _, _, hO, ⟨RC_sv hC w, noM.rf.up (by omega), h1⟩, RM_sv hO.2.2.1.1 hM w, noC.rf.up (by omega), h2⟩
theorem RC_rw {ρ' : Rw} {M' : sw_Mem} (h : RC T I π ρ τ ft sv θ M) (hc : CRw ρ' M') (e : ∀ k, k < 14 ∨ 24 ≤ k → M' k = M k) : RC T I π ρ' τ ft sv θ M' := by
  obtain ⟨h1, h2, h3, h4, h5, h6, h7, h8, h9⟩ := h
  refine ⟨IsV_c h1 (fun k _ _ => e k (by omega)), CIm_c h2 (fun k _ _ => e k (by omega)), CPs_c h3 (fun k _ _ => e k (by omega)), hc, CTp_c h5 (fun k _ _ => e k (by omega)), ?_, ?_, CTc_c h8 (fun k _ _ => e k (by omega)), CKn_c h9 (fun k _ _ => e k (by omega))⟩
  · rw [e 11 (by omega)]; exact h6
  · rw [e 11 (by omega)]; exact h7
theorem RM_rw {ρ' : Rw} {M' : sw_Mem} (h : RM T I π ρ τ ft sv θ M) (hc : MRw ρ' M') (e : ∀ k, k < 3 ∨ 6 ≤ k → M' k = M k) : RM T I π ρ' τ ft sv θ M' := by
  obtain ⟨⟨h1, h1'⟩, h2, h3, h4, ⟨h5, h5'⟩, h6, h7, ⟨h8, h8'⟩⟩ := h
  have e0 := e 0 (by omega)
  have e1 := e 1 (by omega)
  refine ⟨⟨IsM_c h1 (fun j _ _ => by rw [e1]), by rw [e0]; exact h1'⟩, MIm_c h2 (fun j _ _ => by rw [e1]) (e 2 (by omega)), ⟨by rw [e0]; exact h3.1, fun i hi => IsM_c (h3.2 i hi) (fun j _ _ => by rw [e1])⟩, hc, ⟨by rw [e0]; exact h5, by rw [e 6 (by omega)]; exact h5'⟩, by rw [e0]; exact h6, by rw [e0]; exact h7, ⟨by rw [e0]; exact h8, by rw [e 7 (by omega)]; exact h8'⟩⟩
theorem k126 {d : Nat} {Q : Option Value → sw_Mem → Prop} (x : Int32) : sw_Cal (d + 1) 126 [.int x] M Q = if 0 ≤ x.toInt ∧ x.toInt ≤ 60 then Q (some (.int (nI 1))) M else Q (some (.int (nI 0))) M := by
  rw [c126]
  simp (disch := omega) only [s126_0, s126_1, s126_4, s126_5, s126_7, s126_10, s126_11, s126_14, s126_15, z_lt_t, z_lt_f, z_le_t, z_le_f, z_lt0, z_ge0, z_cl, z_in, z_add, z_eq_f, z_ne0, z_00, z_10, z_01, z_11, z_neg1, z_nI_NONE, z_div, z_rem, z_rem2, sw_pu_s, sw_pu_n, true_and, and_true, true_or, or_true, if_true, if_false, not_true_eq_false, not_false_eq_true, z_ltI, z_gtI, z_leI, z_geI, z_lt0I, z_ge0I, z_gt0I, z_le0I, z_ibI, Int32.toInt_zero]
  by_cases h : 0 ≤ x.toInt ∧ x.toInt ≤ 60
  · simp (disch := omega) only [↓if_pos, ↓if_neg]
  · by_cases h1 : x.toInt < 0
    · simp (disch := omega) only [↓if_pos, ↓if_neg]
    · simp (disch := omega) only [↓if_pos, ↓if_neg]
theorem k127 {d : Nat} {Q : Option Value → sw_Mem → Prop} (x : Int32) : sw_Cal (d + 1) 127 [.int x] M Q = if 0 ≤ x.toInt ∧ x.toInt ≤ 999 then Q (some (.int (nI 1))) M else Q (some (.int (nI 0))) M := by
  rw [c127]
  simp (disch := omega) only [s127_0, s127_1, s127_4, s127_5, s127_8, s127_11, s127_12, s127_15, s127_16, z_lt_t, z_lt_f, z_le_t, z_le_f, z_lt0, z_ge0, z_cl, z_in, z_add, z_eq_f, z_ne0, z_00, z_10, z_01, z_11, z_neg1, z_nI_NONE, z_div, z_rem, z_rem2, sw_pu_s, sw_pu_n, true_and, and_true, true_or, or_true, if_true, if_false, not_true_eq_false, not_false_eq_true, z_ltI, z_gtI, z_leI, z_geI, z_lt0I, z_ge0I, z_gt0I, z_le0I, z_ibI, Int32.toInt_zero]
  by_cases h : 0 ≤ x.toInt ∧ x.toInt ≤ 999
  · simp (disch := omega) only [↓if_pos, ↓if_neg]
  · by_cases h1 : x.toInt < 0
    · simp (disch := omega) only [↓if_pos, ↓if_neg]
    · simp (disch := omega) only [↓if_pos, ↓if_neg]
def upR (f : Nat → Nat → Int32) (r : Nat) (g : Nat → Int32) : Nat → Nat → Int32 := fun q => if q = r then g else f q
theorem upR_s (f : Nat → Nat → Int32) (r : Nat) (g : Nat → Int32) : upR f r g r = g := if_pos rfl
theorem upR_n (f : Nat → Nat → Int32) {r q : Nat} (g : Nat → Int32) (h : q ≠ r) : upR f r g q = f q := if_neg h
theorem fill2_step (M : sw_Mem) (a s i : Nat) (x : Int32) : sw_up (sw_set M a (fun j => if s ≤ j ∧ j < s + i then x else M a j)) a (s + i) x = sw_set M a (fun j => if s ≤ j ∧ j < s + (i + 1) then x else M a j) := by
  funext k j
  rw [z_up]
  by_cases h : k = a
  · subst h
    rw [z_set_s, z_set_s]
    by_cases hj : j = s + i
    · subst hj
      rw [if_pos ⟨rfl, rfl⟩, if_pos (by omega)]
    · rw [if_neg (fun q => hj q.2)]
      by_cases h2 : s ≤ j ∧ j < s + i
      · rw [if_pos h2, if_pos (by omega)]
      · rw [if_neg h2, if_neg (by omega)]
  · rw [if_neg (fun q => h q.1), z_set_n _ _ h, z_set_n _ _ h]
theorem set_id (M : sw_Mem) (a : Nat) {f : Nat → Int32} (h : f = M a) : sw_set M a f = M := by
  funext k j
  by_cases e : k = a
  · subst e
    rw [z_set_s, h]
  · rw [z_set_n _ _ e]
theorem k136L {d : Nat} {Q : Option Value → sw_Mem → Prop} {r : Nat} (hr : r < 8) (l n : Int32) : ∀ k i, i + k = 40 → sw_WP (d + 1) 136 55 [.ref 0, .int (nI r), .int l, .int n, .int (nI i)] [] (sw_set N 5 (fun j => if 40 * r ≤ j ∧ j < 40 * r + i then nI 0 else N 5 j)) Q = Q (some (.int n)) (sw_up (sw_set N 5 (fun j => if 40 * r ≤ j ∧ j < 40 * r + 40 then nI 0 else N 5 j)) 0 10 (nI 0)) := by
  intro k
  induction k with
  | zero =>
    intro i h
    obtain rfl : i = 40 := by omega
    refine (s136_55 ..).trans ?_
    simp (disch := omega) only [s136_0, s136_1, s136_4, s136_7, s136_8, s136_9, s136_10, s136_13, s136_16, s136_19, s136_20, s136_22, s136_25, s136_27, s136_28, s136_29, s136_32, s136_33, s136_34, s136_37, s136_38, s136_39, s136_42, s136_43, s136_44, s136_45, s136_46, s136_49, s136_50, s136_51, s136_52, s136_53, s136_57, s136_59, s136_62, s136_63, s136_66, s136_68, s136_69, s136_70, s136_72, s136_73, s136_74, s136_75, s136_78, s136_81, s136_82, s136_83, s136_86, z_lt_t, z_lt_f, z_le_t, z_le_f, z_lt0, z_ge0, z_cl, z_in, z_add, z_eq_f, z_ne0, z_00, z_10, z_01, z_11, z_neg1, z_nI_NONE, z_div, z_rem, z_rem2, sw_pu_s, sw_pu_n, true_and, and_true, true_or, or_true, if_true, if_false, not_true_eq_false, not_false_eq_true, k134]
  | succ k ih =>
    intro i h
    have := ih (i + 1) (by omega)
    refine (s136_55 ..).trans ?_
    simp (disch := omega) only [s136_0, s136_1, s136_4, s136_7, s136_8, s136_9, s136_10, s136_13, s136_16, s136_19, s136_20, s136_22, s136_25, s136_27, s136_28, s136_29, s136_32, s136_33, s136_34, s136_37, s136_38, s136_39, s136_42, s136_43, s136_44, s136_45, s136_46, s136_49, s136_50, s136_51, s136_52, s136_53, s136_57, s136_59, s136_62, s136_63, s136_66, s136_68, s136_69, s136_70, s136_72, s136_73, s136_74, s136_75, s136_78, s136_81, s136_82, s136_83, s136_86, z_lt_t, z_lt_f, z_le_t, z_le_f, z_lt0, z_ge0, z_cl, z_in, z_add, z_eq_f, z_ne0, z_00, z_10, z_01, z_11, z_neg1, z_nI_NONE, z_div, z_rem, z_rem2, sw_pu_s, sw_pu_n, true_and, and_true, true_or, or_true, if_true, if_false, not_true_eq_false, not_false_eq_true, z_mul, fill2_step, this]
theorem o_row (x l n : Int32) : Opp 91 136 [.int x, .int l, .int n] := by
  intro d T I π ρ τ ft sv θ M N hO hC hM
  have hcr := hC.2.2.2.1
  have hmr := hM.2.2.2.1
  have ho := hO.2.2.2.1
  by_cases b : (0 ≤ x.toInt ∧ x.toInt < 8) ∧ (0 ≤ l.toInt ∧ l.toInt < 3) ∧ n.toInt ≤ 40
  · obtain ⟨r, hr, rfl⟩ := sw_ib_of (x := x) (n := 8) (by rw [z_ibI]; omega) (by omega)
    obtain ⟨l', hl, rfl⟩ := sw_ib_of (x := l) (n := 3) (by rw [z_ibI]; omega) (by omega)
    by_cases h0 : n.toInt < 0
    · refine Res_sv hO hC hM (-1000010 - nI 4) (nI 4) (fun Q => ?_) (fun Q => ?_)
      · rw [c91]
        simp (disch := omega) only [s91_0, s91_1, s91_4, s91_7, s91_8, s91_11, s91_12, s91_13, s91_16, s91_17, s91_19, s91_22, s91_24, s91_25, s91_26, s91_29, s91_30, s91_31, s91_34, s91_35, s91_36, s91_39, s91_40, s91_41, s91_42, s91_45, s91_46, s91_47, s91_50, z_lt_t, z_lt_f, z_le_t, z_le_f, z_lt0, z_ge0, z_cl, z_in, z_add, z_eq_f, z_ne0, z_00, z_10, z_01, z_11, z_neg1, z_nI_NONE, z_div, z_rem, z_rem2, sw_pu_s, sw_pu_n, true_and, and_true, true_or, or_true, if_true, if_false, not_true_eq_false, not_false_eq_true, z_ltI, z_gtI, z_leI, z_geI, z_lt0I, z_ge0I, z_gt0I, z_le0I, z_ibI, Int32.toInt_zero, k43, k124, z_TI, ↓if_pos, ↓if_neg]
      · rw [c136]
        simp (disch := omega) only [s136_0, s136_1, s136_4, s136_7, s136_8, s136_9, s136_10, s136_13, s136_16, s136_19, s136_20, s136_22, s136_25, s136_27, s136_28, s136_29, s136_32, s136_33, s136_34, s136_37, s136_38, s136_39, s136_42, s136_43, s136_44, s136_45, s136_46, s136_49, s136_50, s136_51, s136_52, s136_53, s136_57, s136_59, s136_62, s136_63, s136_66, s136_68, s136_69, s136_70, s136_72, s136_73, s136_74, s136_75, s136_78, s136_81, s136_82, s136_83, s136_86, z_lt_t, z_lt_f, z_le_t, z_le_f, z_lt0, z_ge0, z_cl, z_in, z_add, z_eq_f, z_ne0, z_00, z_10, z_01, z_11, z_neg1, z_nI_NONE, z_div, z_rem, z_rem2, sw_pu_s, sw_pu_n, true_and, and_true, true_or, or_true, if_true, if_false, not_true_eq_false, not_false_eq_true, z_ltI, z_gtI, z_leI, z_geI, z_lt0I, z_ge0I, z_gt0I, z_le0I, z_ibI, Int32.toInt_zero, k135, k129, k133, z_lT, z_xT, z_TI, ↓if_pos, ↓if_neg]
    · obtain ⟨n', hn, rfl⟩ := sw_ib_of (x := n) (n := 41) (by rw [z_ibI]; omega) (by omega)
      have h48 := fun d Q => k48 (d := d) (M := M) (Q := Q) (r := r) (l := l') (n := n') (by omega)
      refine ⟨T, I, π, (upT ρ.1 r l', upT ρ.2.1 r (n' + 1), upR ρ.2.2 r (fun _ => nI 0)), τ, ft, nI 0, θ, nI n', _, _, ⟨hO.1, hO.2.1, hO.2.2.1, ?_, hO.2.2.2.2⟩, ⟨RC_sv (RC_rw hC (M' := sw_up (sw_up (sw_set M (14 + r) (fun j => if j < 40 then nI 0 else M (14 + r) j)) 22 r (nI l')) 23 r (nI n')) ?_ ?_) (nI 0), ?_, fun Q => ?_⟩, RM_sv hO.2.2.1.1 (RM_rw hM (M' := sw_set (sw_up (sw_up N 3 r (nI l')) 4 r (nI n')) 5 (fun j => if 40 * r ≤ j ∧ j < 40 * r + 40 then nI 0 else N 5 j)) ?_ ?_) (nI 0), ?_, fun Q => ?_⟩
      · intro q hq
        have := ho q hq
        by_cases e : q = r
        · subst e
          simp only [upT_s]
          omega
        · simp only [upT_n _ _ e]
          exact this
      · intro q hq
        have := hcr q hq
        by_cases e : q = r
        · subst e
          refine ⟨?_, ?_, fun i hi => ?_⟩ <;> dsimp only
          · rw [z_up_n _ _ (by omega), z_up_s, upT_s]
          · rw [z_up_s, upT_s, szv_s]
          · rw [z_up_n _ _ (by omega), z_up_n _ _ (by omega), z_set_s, if_pos hi, upR_s]
        · obtain ⟨g1, g2, g3⟩ := this
          refine ⟨?_, ?_, fun i hi => ?_⟩ <;> dsimp only
          · rw [z_up_n _ _ (by omega), z_up_j _ _ e, z_set_n _ _ (by omega), upT_n _ _ e, g1]
          · rw [z_up_j _ _ e, z_up_n _ _ (by omega), z_set_n _ _ (by omega), upT_n _ _ e, g2]
          · rw [z_up_n _ _ (by omega), z_up_n _ _ (by omega), z_set_n _ _ (by omega), upR_n _ _ e, g3 i hi]
      · intro k hk
        rw [z_up_n _ _ (by omega), z_up_n _ _ (by omega), z_set_n _ _ (by omega)]
      · exact ((((noM.rf.set (by omega)).up (by omega)).up (by omega)).up (by omega))
      · rw [c91]
        simp (disch := omega) only [s91_0, s91_1, s91_4, s91_7, s91_8, s91_11, s91_12, s91_13, s91_16, s91_17, s91_19, s91_22, s91_24, s91_25, s91_26, s91_29, s91_30, s91_31, s91_34, s91_35, s91_36, s91_39, s91_40, s91_41, s91_42, s91_45, s91_46, s91_47, s91_50, z_lt_t, z_lt_f, z_le_t, z_le_f, z_lt0, z_ge0, z_cl, z_in, z_add, z_eq_f, z_ne0, z_00, z_10, z_01, z_11, z_neg1, z_nI_NONE, z_div, z_rem, z_rem2, sw_pu_s, sw_pu_n, true_and, and_true, true_or, or_true, if_true, if_false, not_true_eq_false, not_false_eq_true, z_ltI, z_gtI, z_leI, z_geI, z_lt0I, z_ge0I, z_gt0I, z_le0I, z_ibI, Int32.toInt_zero, k43, h48, k125, z_TI, ↓if_pos, ↓if_neg]
      · intro q hq
        have := hmr q hq
        by_cases e : q = r
        · subst e
          refine ⟨?_, ?_, fun i hi => ?_⟩ <;> dsimp only
          · rw [z_set_n _ _ (by omega), z_up_n _ _ (by omega), z_up_s, upT_s]
          · rw [z_set_n _ _ (by omega), z_up_s, upT_s, szv_s]
          · rw [z_set_s, if_pos (by omega), upR_s]
        · obtain ⟨g1, g2, g3⟩ := this
          refine ⟨?_, ?_, fun i hi => ?_⟩ <;> dsimp only
          · rw [z_set_n _ _ (by omega), z_up_n _ _ (by omega), z_up_j _ _ e, upT_n _ _ e, g1]
          · rw [z_set_n _ _ (by omega), z_up_j _ _ e, z_up_n _ _ (by omega), upT_n _ _ e, g2]
          · rw [z_set_s, if_neg (by omega), upR_n _ _ e, g3 i hi]
      · intro k hk
        rw [z_set_n _ _ (by omega), z_up_n _ _ (by omega), z_up_n _ _ (by omega)]
      · exact ((((noC.rf.up (by omega)).up (by omega)).set (by omega)).up (by omega))
      · have hL := k136L (d := d + 18) (N := sw_up (sw_up N 3 r (nI l')) 4 r (nI n')) (Q := Q) hr (nI l') (nI n') 40 0 (by omega)
        rw [set_id (sw_up (sw_up N 3 r (nI l')) 4 r (nI n')) 5 (by funext j; rw [if_neg (by omega)])] at hL
        rw [z_up_n _ _ (show 5 ≠ 4 by omega), z_up_n _ _ (show 5 ≠ 3 by omega)] at hL
        rw [c136]
        simp (disch := omega) only [s136_0, s136_1, s136_4, s136_7, s136_8, s136_9, s136_10, s136_13, s136_16, s136_19, s136_20, s136_22, s136_25, s136_27, s136_28, s136_29, s136_32, s136_33, s136_34, s136_37, s136_38, s136_39, s136_42, s136_43, s136_44, s136_45, s136_46, s136_49, s136_50, s136_51, s136_52, s136_53, s136_57, s136_59, s136_62, s136_63, s136_66, s136_68, s136_69, s136_70, s136_72, s136_73, s136_74, s136_75, s136_78, s136_81, s136_82, s136_83, s136_86, z_lt_t, z_lt_f, z_le_t, z_le_f, z_lt0, z_ge0, z_cl, z_in, z_add, z_eq_f, z_ne0, z_00, z_10, z_01, z_11, z_neg1, z_nI_NONE, z_div, z_rem, z_rem2, sw_pu_s, sw_pu_n, true_and, and_true, true_or, or_true, if_true, if_false, not_true_eq_false, not_false_eq_true, z_ltI, z_gtI, z_leI, z_geI, z_lt0I, z_ge0I, z_gt0I, z_le0I, z_ibI, Int32.toInt_zero, k135, k129, z_lT, z_xT, z_TI, ↓if_pos, ↓if_neg, hL]
  · refine Res_id hO hC hM (-1000001) (fun Q => ?_) (fun Q => ?_)
    · rw [c91]
      by_cases b1 : 0 ≤ x.toInt ∧ x.toInt < 8
      · by_cases b2 : l.toInt < 0
        · simp (disch := omega) only [s91_0, s91_1, s91_4, s91_7, s91_8, s91_11, s91_12, s91_13, s91_16, s91_17, s91_19, s91_22, s91_24, s91_25, s91_26, s91_29, s91_30, s91_31, s91_34, s91_35, s91_36, s91_39, s91_40, s91_41, s91_42, s91_45, s91_46, s91_47, s91_50, z_lt_t, z_lt_f, z_le_t, z_le_f, z_lt0, z_ge0, z_cl, z_in, z_add, z_eq_f, z_ne0, z_00, z_10, z_01, z_11, z_neg1, z_nI_NONE, z_div, z_rem, z_rem2, sw_pu_s, sw_pu_n, true_and, and_true, true_or, or_true, if_true, if_false, not_true_eq_false, not_false_eq_true, z_ltI, z_gtI, z_leI, z_geI, z_lt0I, z_ge0I, z_gt0I, z_le0I, z_ibI, Int32.toInt_zero, k43, ↓if_pos, ↓if_neg]
        · by_cases b3 : 3 ≤ l.toInt
          · simp (disch := omega) only [s91_0, s91_1, s91_4, s91_7, s91_8, s91_11, s91_12, s91_13, s91_16, s91_17, s91_19, s91_22, s91_24, s91_25, s91_26, s91_29, s91_30, s91_31, s91_34, s91_35, s91_36, s91_39, s91_40, s91_41, s91_42, s91_45, s91_46, s91_47, s91_50, z_lt_t, z_lt_f, z_le_t, z_le_f, z_lt0, z_ge0, z_cl, z_in, z_add, z_eq_f, z_ne0, z_00, z_10, z_01, z_11, z_neg1, z_nI_NONE, z_div, z_rem, z_rem2, sw_pu_s, sw_pu_n, true_and, and_true, true_or, or_true, if_true, if_false, not_true_eq_false, not_false_eq_true, z_ltI, z_gtI, z_leI, z_geI, z_lt0I, z_ge0I, z_gt0I, z_le0I, z_ibI, Int32.toInt_zero, k43, ↓if_pos, ↓if_neg]
          · simp (disch := omega) only [s91_0, s91_1, s91_4, s91_7, s91_8, s91_11, s91_12, s91_13, s91_16, s91_17, s91_19, s91_22, s91_24, s91_25, s91_26, s91_29, s91_30, s91_31, s91_34, s91_35, s91_36, s91_39, s91_40, s91_41, s91_42, s91_45, s91_46, s91_47, s91_50, z_lt_t, z_lt_f, z_le_t, z_le_f, z_lt0, z_ge0, z_cl, z_in, z_add, z_eq_f, z_ne0, z_00, z_10, z_01, z_11, z_neg1, z_nI_NONE, z_div, z_rem, z_rem2, sw_pu_s, sw_pu_n, true_and, and_true, true_or, or_true, if_true, if_false, not_true_eq_false, not_false_eq_true, z_ltI, z_gtI, z_leI, z_geI, z_lt0I, z_ge0I, z_gt0I, z_le0I, z_ibI, Int32.toInt_zero, k43, ↓if_pos, ↓if_neg]
      · simp (disch := omega) only [s91_0, s91_1, s91_4, s91_7, s91_8, s91_11, s91_12, s91_13, s91_16, s91_17, s91_19, s91_22, s91_24, s91_25, s91_26, s91_29, s91_30, s91_31, s91_34, s91_35, s91_36, s91_39, s91_40, s91_41, s91_42, s91_45, s91_46, s91_47, s91_50, z_lt_t, z_lt_f, z_le_t, z_le_f, z_lt0, z_ge0, z_cl, z_in, z_add, z_eq_f, z_ne0, z_00, z_10, z_01, z_11, z_neg1, z_nI_NONE, z_div, z_rem, z_rem2, sw_pu_s, sw_pu_n, true_and, and_true, true_or, or_true, if_true, if_false, not_true_eq_false, not_false_eq_true, z_ltI, z_gtI, z_leI, z_geI, z_lt0I, z_ge0I, z_gt0I, z_le0I, z_ibI, Int32.toInt_zero, k43, ↓if_pos, ↓if_neg]
    · rw [c136]
      by_cases b1 : 0 ≤ x.toInt ∧ x.toInt < 8
      · by_cases b2 : 0 ≤ l.toInt ∧ l.toInt < 3
        · simp (disch := omega) only [s136_0, s136_1, s136_4, s136_7, s136_8, s136_9, s136_10, s136_13, s136_16, s136_19, s136_20, s136_22, s136_25, s136_27, s136_28, s136_29, s136_32, s136_33, s136_34, s136_37, s136_38, s136_39, s136_42, s136_43, s136_44, s136_45, s136_46, s136_49, s136_50, s136_51, s136_52, s136_53, s136_57, s136_59, s136_62, s136_63, s136_66, s136_68, s136_69, s136_70, s136_72, s136_73, s136_74, s136_75, s136_78, s136_81, s136_82, s136_83, s136_86, z_lt_t, z_lt_f, z_le_t, z_le_f, z_lt0, z_ge0, z_cl, z_in, z_add, z_eq_f, z_ne0, z_00, z_10, z_01, z_11, z_neg1, z_nI_NONE, z_div, z_rem, z_rem2, sw_pu_s, sw_pu_n, true_and, and_true, true_or, or_true, if_true, if_false, not_true_eq_false, not_false_eq_true, z_ltI, z_gtI, z_leI, z_geI, z_lt0I, z_ge0I, z_gt0I, z_le0I, z_ibI, Int32.toInt_zero, k135, k129, z_lT, z_xT, ↓if_pos, ↓if_neg]
        · simp (disch := omega) only [s136_0, s136_1, s136_4, s136_7, s136_8, s136_9, s136_10, s136_13, s136_16, s136_19, s136_20, s136_22, s136_25, s136_27, s136_28, s136_29, s136_32, s136_33, s136_34, s136_37, s136_38, s136_39, s136_42, s136_43, s136_44, s136_45, s136_46, s136_49, s136_50, s136_51, s136_52, s136_53, s136_57, s136_59, s136_62, s136_63, s136_66, s136_68, s136_69, s136_70, s136_72, s136_73, s136_74, s136_75, s136_78, s136_81, s136_82, s136_83, s136_86, z_lt_t, z_lt_f, z_le_t, z_le_f, z_lt0, z_ge0, z_cl, z_in, z_add, z_eq_f, z_ne0, z_00, z_10, z_01, z_11, z_neg1, z_nI_NONE, z_div, z_rem, z_rem2, sw_pu_s, sw_pu_n, true_and, and_true, true_or, or_true, if_true, if_false, not_true_eq_false, not_false_eq_true, z_ltI, z_gtI, z_leI, z_geI, z_lt0I, z_ge0I, z_gt0I, z_le0I, z_ibI, Int32.toInt_zero, k135, k129, z_lT, z_xT, ↓if_pos, ↓if_neg]
      · simp (disch := omega) only [s136_0, s136_1, s136_4, s136_7, s136_8, s136_9, s136_10, s136_13, s136_16, s136_19, s136_20, s136_22, s136_25, s136_27, s136_28, s136_29, s136_32, s136_33, s136_34, s136_37, s136_38, s136_39, s136_42, s136_43, s136_44, s136_45, s136_46, s136_49, s136_50, s136_51, s136_52, s136_53, s136_57, s136_59, s136_62, s136_63, s136_66, s136_68, s136_69, s136_70, s136_72, s136_73, s136_74, s136_75, s136_78, s136_81, s136_82, s136_83, s136_86, z_lt_t, z_lt_f, z_le_t, z_le_f, z_lt0, z_ge0, z_cl, z_in, z_add, z_eq_f, z_ne0, z_00, z_10, z_01, z_11, z_neg1, z_nI_NONE, z_div, z_rem, z_rem2, sw_pu_s, sw_pu_n, true_and, and_true, true_or, or_true, if_true, if_false, not_true_eq_false, not_false_eq_true, z_ltI, z_gtI, z_leI, z_geI, z_lt0I, z_ge0I, z_gt0I, z_le0I, z_ibI, Int32.toInt_zero, k135, k129, z_lT, z_xT, ↓if_pos, ↓if_neg]
end OPA
