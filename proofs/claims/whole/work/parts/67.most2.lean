section MOA
variable {d e q sp : Nat} {T : Tw} {t : Nat → Nat} {s : St} {M N : sw_Mem} {Q : Option Value → sw_Mem → Prop}
theorem kd_wo {r : Nat} (h : r < 4) : sw_kd (100 + r) = 10 ∧ sw_ln (100 + r) = 4 := by
  have : ∀ r, r < 4 → sw_kd (100 + r) = 10 ∧ sw_ln (100 + r) = 4 := by decide +kernel
  exact this r h
def wS (T : Tw) (e r b : Nat) (M : sw_Mem) : Prop := IsV M 34 T ∧ M 91 5 = nI 34 ∧ (∀ p, p < r → ∀ c, c < T 0 → M (100 + p) c = nI (Wg T e p c)) ∧ ∀ c, c < b → M (100 + r) c = nI (Wg T e r c)
theorem k85b (hT : OKT T) (he : e ≤ 60) {r : Nat} (hr : r < T 1) : ∀ m b (M : sw_Mem), b + m = T 0 → wS T e r b M → ∃ M', wS T e (r + 1) 0 M' ∧ sC M M' ∧ ∀ Q, sw_WP (d + 5) 85 21 [.ref 91, .ref 34, .int (nI e), .int (nI r), .int (nI b)] [] M Q = sw_WP (d + 5) 85 7 [.ref 91, .ref 34, .int (nI e), .int (nI (r + 1)), .int (nI (T 0))] [] M' Q := by
  have hW := hT.1
  have w0 := hW.1
  have w1 := hW.2.1
  have h9 := hT.2.2.1
  intro m
  induction m with
  | zero =>
    intro b M hb hS
    obtain rfl : b = T 0 := by omega
    obtain ⟨hV, h5, h1, h2⟩ := hS
    have g3 := hV.2.1.2.2.2.1
    refine ⟨M, ⟨hV, h5, fun p hp c hc => ?_, fun c hc => absurd hc (Nat.not_lt_zero c)⟩, sC.rf, fun Q => ?_⟩
    · by_cases ep : p = r
      · subst ep; exact h2 c hc
      · exact h1 p (by omega) c hc
    · refine (s85_21 ..).trans ?_
      simp (disch := omega) only [s85_23, s85_24, s85_27, s85_30, s85_85, s85_88, z_lt_t, z_lt_f, z_le_t, z_le_f, z_lt0, z_ge0, z_cl, z_in, z_add, z_eq_f, z_ne0, z_00, z_10, z_01, z_11, z_neg1, z_nI_NONE, z_div, z_rem, z_rem2, sw_pu_s, sw_pu_n, true_and, and_true, true_or, or_true, if_true, if_false, not_true_eq_false, not_false_eq_true, h5, kd34, g3]
  | succ m ih =>
    intro b M hb hS
    obtain ⟨hV, h5, h1, h2⟩ := hS
    have g3 := hV.2.1.2.2.2.1
    have h59 := fun d Q => k59 (d := d) (M := M) (Q := Q) kd_v.2.1 kd34
    have h67 := fun d M Q => k67 (d := d) (M := M) (Q := Q) kd_v.2.1
    have hB := bcM_V (M := M) (v := 92) hV kd_v.2.1 w0 w1 (by omega)
    have hN := IsV_no hB w0 w1 b
    have hL := IsV_lie hN (by rw [al_o _ (by omega)]; exact w0) (by rw [al_o _ (by omega)]; exact w1) (r := r) (by rw [al_o _ (by omega)]; exact hr) b
    rw [al_al (by omega), bn_n (by omega)] at hL
    have hWa := WF_al hW (r := r) (b := b) (Or.inr (by omega))
    have a4 : al T r b 4 = T 4 := al_o _ (by omega)
    obtain ⟨M2, c1, c2, c3⟩ := k71 (d := d) (n := e) hL hWa (F := 144 * T 4) (fun c hc => by rw [al_o _ (by omega)] at hc ⊢; exact hT.2.1 c hc) (by omega) (by omega)
    have o1 := bcM_off M 92 34
    have o2 : Off M M2 92 := ((o1.set (a := 97) (f := (fun j => if j < 4 then -1000000 else bcM M 92 34 97 j)) (by omega)).up (a := 97) (j := r) (x := nI b) (by omega)).tr c2
    have hk := kd_wo (r := r) (by omega)
    have g5 : bcM M 92 34 91 5 = nI 34 := by rw [o1 91 (by omega)]; exact h5
    obtain ⟨M', f1, f2, f3⟩ := ih (b + 1) (sw_up M2 (100 + r) b (nI (gdT (al T r b) e))) (by omega) ⟨IsV_c hV (fun k _ _ => by rw [z_up_n _ _ (by omega)]; exact o2 k (by omega)), by rw [z_up_n _ _ (by omega), o2 91 (by omega)]; exact h5, fun p hp c hc => by rw [z_up_n _ _ (by omega), o2 (100 + p) (by omega)]; exact h1 p hp c hc, fun c hc => by
      by_cases ec : c = b
      · subst ec; rw [z_up_s]; rfl
      · rw [z_up_j _ _ ec, o2 (100 + r) (by omega)]; exact h2 c (by omega)⟩
    refine ⟨M', f1, ((sC.off o2 (by omega)).up (by omega)).tr f2, fun Q => ?_⟩
    rw [← f3 Q]
    refine (s85_21 ..).trans ?_
    simp (disch := omega) only [s85_23, s85_24, s85_27, s85_30, s85_33, s85_34, s85_37, s85_38, s85_41, s85_44, s85_45, s85_48, s85_51, s85_52, s85_55, s85_58, s85_59, s85_61, s85_62, s85_63, s85_66, s85_67, s85_68, s85_70, s85_71, s85_74, s85_75, s85_78, s85_79, s85_82, z_lt_t, z_lt_f, z_le_t, z_le_f, z_lt0, z_ge0, z_cl, z_in, z_add, z_eq_f, z_ne0, z_00, z_10, z_01, z_11, z_neg1, z_nI_NONE, z_div, z_rem, z_rem2, sw_pu_s, sw_pu_n, true_and, and_true, true_or, or_true, if_true, if_false, not_true_eq_false, not_false_eq_true, h5, kd34, g3, h59, h67, kd_v.2.1, sw_vk5 kd_v.2.1, sw_vn5 kd_v.2.1, hk.1, hk.2, c3]
theorem k85L (hT : OKT T) (he : e ≤ 60) : ∀ n r (M : sw_Mem) (x4 : Value), r + n = T 1 → wS T e r 0 M → ∃ M', wS T e (T 1) 0 M' ∧ sC M M' ∧ ∀ Q, sw_WP (d + 5) 85 7 [.ref 91, .ref 34, .int (nI e), .int (nI r), x4] [] M Q = Q none M' := by
  have hW := hT.1
  have w0 := hW.1
  have w1 := hW.2.1
  intro n
  induction n with
  | zero =>
    intro r M x4 hr hS
    obtain rfl : r = T 1 := by omega
    have h5 := hS.2.1
    have g4 := hS.1.2.1.2.2.2.2
    refine ⟨M, hS, sC.rf, fun Q => ?_⟩
    refine (s85_7 ..).trans ?_
    simp (disch := omega) only [s85_8, s85_9, s85_12, s85_15, s85_91, z_lt_t, z_lt_f, z_le_t, z_le_f, z_lt0, z_ge0, z_cl, z_in, z_add, z_eq_f, z_ne0, z_00, z_10, z_01, z_11, z_neg1, z_nI_NONE, z_div, z_rem, z_rem2, sw_pu_s, sw_pu_n, true_and, and_true, true_or, or_true, if_true, if_false, not_true_eq_false, not_false_eq_true, h5, kd34, g4]
  | succ n ih =>
    intro r M x4 hr hS
    have h5 := hS.2.1
    have g4 := hS.1.2.1.2.2.2.2
    obtain ⟨M1, a1, a2, a3⟩ := k85b (d := d) hT he (show r < T 1 by omega) (T 0) 0 M (by omega) hS
    obtain ⟨M2, b1, b2, b3⟩ := ih (r + 1) M1 (.int (nI (T 0))) (by omega) a1
    refine ⟨M2, b1, a2.tr b2, fun Q => ?_⟩
    rw [← b3 Q, ← a3 Q]
    refine (s85_7 ..).trans ?_
    simp (disch := omega) only [s85_8, s85_9, s85_12, s85_15, s85_18, s85_19, z_lt_t, z_lt_f, z_le_t, z_le_f, z_lt0, z_ge0, z_cl, z_in, z_add, z_eq_f, z_ne0, z_00, z_10, z_01, z_11, z_neg1, z_nI_NONE, z_div, z_rem, z_rem2, sw_pu_s, sw_pu_n, true_and, and_true, true_or, or_true, if_true, if_false, not_true_eq_false, not_false_eq_true, h5, kd34, g4]
theorem k85 (hV : IsV M 34 T) (hT : OKT T) (he : e ≤ 60) : ∃ M', IsV M' 34 T ∧ M' 91 5 = nI 34 ∧ (∀ r, r < T 1 → ∀ b, b < T 0 → M' (100 + r) b = nI (Wg T e r b)) ∧ sC M M' ∧ ∀ Q, sw_Cal (d + 6) 85 [.ref 91, .ref 34, .int (nI e)] M Q = Q none M' := by
  obtain ⟨M', a1, a2, a3⟩ := k85L (d := d) hT he (T 1) 0 (sw_up M 91 5 (nI 34)) sw_U (by omega) ⟨IsV_c hV (fun k _ _ => z_up_n _ _ (by omega)), z_up_s _ _ _ _, fun p hp => absurd hp (Nat.not_lt_zero p), fun c hc => absurd hc (Nat.not_lt_zero c)⟩
  refine ⟨M', a1.1, a1.2.1, a1.2.2.1, (sC.rf.up (by omega)).tr a2, fun Q => ?_⟩
  rw [← a3 Q, c85]
  simp (disch := omega) only [s85_0, s85_1, s85_2, s85_5, s85_6]
def cB (T : Tw) (e q sp : Nat) (M : sw_Mem) : Prop := IsV M 34 T ∧ M 91 5 = nI 34 ∧ M 91 6 = nI q ∧ M 91 7 = nI sp ∧ ∀ r, r < T 1 → ∀ b, b < T 0 → M (100 + r) b = nI (Wg T e r b)
def cA (T : Tw) (sp : Nat) (s : St) (M : sw_Mem) : Prop := M 91 8 = bvC sp s.1 ∧ (s.1 ≠ nn sp → ∀ r, r < T 1 → M 106 r = bn (s.2 r))
def cP (t : Nat → Nat) (r : Nat) (M : sw_Mem) : Prop := ∀ p, p < r → M 105 p = bn (t p)
def okS (sp : Nat) (s : St) : Prop := (sp = 0 ∧ s.1 ≤ 40000) ∨ (sp = 1 ∧ s.1 ≤ 5)
theorem cB_p {M' : sw_Mem} (h : cB T e q sp M) (e1 : ∀ k, k ≠ 105 → k ≠ 106 → M' k = M k) (w1 : T 1 ≤ 4) : cB T e q sp M' := by
  obtain ⟨h1, h2, h3, h4, h5⟩ := h
  have e2 := e1 91 (by omega) (by omega)
  exact ⟨IsV_c h1 (fun k _ _ => e1 k (by omega) (by omega)), by rw [e2]; exact h2, by rw [e2]; exact h3, by rw [e2]; exact h4, fun r hr b hb => by rw [e1 (100 + r) (by omega) (by omega)]; exact h5 r hr b hb⟩
theorem lf_ok (hT : OKT T) (he : e ≤ 60) (hs : okS sp s) (ht : ∀ p, p < T 1 → t p = 4 ∨ t p < T 0) : okS sp (lf sp q T e s t) := by
  have w1 := hT.1.2.1
  have h1 := gD_le hT he (T 1) ht
  have h2 := mD_le T t (T 1)
  unfold lf
  rcases hs with ⟨rfl, h⟩ | ⟨rfl, h⟩
  · rw [if_pos rfl]
    left
    split
    · exact ⟨rfl, by dsimp only; omega⟩
    · exact ⟨rfl, h⟩
  · rw [if_neg (by decide)]
    right
    split
    · exact ⟨rfl, by dsimp only; omega⟩
    · exact ⟨rfl, h⟩
theorem k90 (hT : OKT T) (he : e ≤ 60) (hq : q < 1000) (hq0 : sp = 0 → q = 0) (ht : ∀ p, p < T 1 → t p = 4 ∨ t p < T 0) (hs : okS sp s) (hB : cB T e q sp M) (hA : cA T sp s M) (hP : cP t (T 1) M) : ∃ M', cB T e q sp M' ∧ cA T sp (lf sp q T e s t) M' ∧ cP t (T 1) M' ∧ sC M M' ∧ ∀ Q, sw_Cal (d + 1) 90 [.ref 91, .int (nI (gD T e t (T 1))), .int (nI (mD T t (T 1)))] M Q = Q none M' := by
  have w1 := hT.1.2.1
  have h1 := gD_le hT he (T 1) ht
  have h2 := mD_le T t (T 1)
  obtain ⟨b1, b2, b3, b4, b5⟩ := id hB
  have a8 := hA.1
  generalize hg : gD T e t (T 1) = g at *
  generalize hm : mD T t (T 1) = m at *
  have kA := kd_w.2.1
  have kL := kd_w.2.2.2.1
  have kT := kd_w.2.2.2.2
  have upd : ∀ (v : Nat) (x : Int32), bvC sp v = x → ∃ M', cB T e q sp M' ∧ cA T sp (v, t) M' ∧ cP t (T 1) M' ∧ sC M M' ∧ M' = sw_set (sw_up M 91 8 x) 106 (va_cpy (sw_up M 91 8 x 105) (sw_up M 91 8 x 106) 0 0 4) := by
    intro v x hx
    refine ⟨_, ?_, ?_, ?_, ?_, rfl⟩
    · refine ⟨IsV_c b1 (fun k _ _ => by rw [z_set_n _ _ (by omega), z_up_n _ _ (by omega)]), ?_, ?_, ?_, fun r hr b hb => ?_⟩
      · rw [z_set_n _ _ (by omega), z_up_j _ _ (by omega)]; exact b2
      · rw [z_set_n _ _ (by omega), z_up_j _ _ (by omega)]; exact b3
      · rw [z_set_n _ _ (by omega), z_up_j _ _ (by omega)]; exact b4
      · rw [z_set_n _ _ (by omega), z_up_n _ _ (by omega)]; exact b5 r hr b hb
    · refine ⟨?_, fun _ r hr => ?_⟩
      · rw [z_set_n _ _ (by omega), z_up_s, ← hx]
      · rw [z_set_s, z_cpy_i (by omega) (by omega), z_up_n _ _ (by omega), Nat.sub_zero, Nat.zero_add]
        exact hP r hr
    · intro p hp
      rw [z_set_n _ _ (by omega), z_up_n _ _ (by omega)]
      exact hP p hp
    · exact (sC.rf.up (by omega)).set (by omega)
  have keep : ∃ M', cB T e q sp M' ∧ cA T sp s M' ∧ cP t (T 1) M' ∧ sC M M' ∧ M' = M := ⟨M, hB, hA, hP, sC.rf, rfl⟩
  unfold lf
  rw [hg, hm]
  rcases hs with ⟨rfl, hv⟩ | ⟨rfl, hv⟩
  · obtain rfl := hq0 rfl
    rw [if_pos rfl]
    have hc := bv_0 (g := g) (v := s.1) (by omega) (by omega)
    by_cases c : s.1 < g + 1
    · rw [if_pos c]
      obtain ⟨M', u1, u2, u3, u4, u5⟩ := upd (g + 1) (nI g) (by unfold bvC; rw [if_pos rfl, if_neg (by omega), Nat.add_sub_cancel])
      refine ⟨M', u1, u2, u3, u4, fun Q => ?_⟩
      rw [c90, u5]
      simp (disch := omega) only [s90_0, s90_1, s90_4, s90_7, s90_8, s90_9, s90_12, s90_13, s90_14, s90_15, s90_16, s90_19, s90_22, s90_23, s90_24, s90_27, s90_30, s90_31, s90_32, s90_35, s90_36, s90_39, s90_40, s90_41, s90_44, s90_45, s90_46, s90_49, z_lt_t, z_lt_f, z_le_t, z_le_f, z_lt0, z_ge0, z_cl, z_in, z_add, z_eq_f, z_ne0, z_00, z_10, z_01, z_11, z_neg1, z_nI_NONE, z_div, z_rem, z_rem2, sw_pu_s, sw_pu_n, true_and, and_true, true_or, or_true, if_true, if_false, not_true_eq_false, not_false_eq_true, b3, b4, a8, hc, show ¬ (g + 1 ≤ s.1) by omega, kA, kL, kT, Nat.zero_add, and_self, Nat.le_refl]
    · rw [if_neg c]
      refine ⟨M, hB, hA, hP, sC.rf, fun Q => ?_⟩
      rw [c90]
      simp (disch := omega) only [s90_0, s90_1, s90_4, s90_7, s90_8, s90_9, s90_12, s90_13, s90_14, s90_15, s90_16, s90_19, s90_22, s90_23, s90_24, s90_27, s90_30, s90_31, s90_32, s90_35, s90_36, s90_39, s90_40, s90_41, s90_44, s90_45, s90_46, s90_49, z_lt_t, z_lt_f, z_le_t, z_le_f, z_lt0, z_ge0, z_cl, z_in, z_add, z_eq_f, z_ne0, z_00, z_10, z_01, z_11, z_neg1, z_nI_NONE, z_div, z_rem, z_rem2, sw_pu_s, sw_pu_n, true_and, and_true, true_or, or_true, if_true, if_false, not_true_eq_false, not_false_eq_true, b3, b4, a8, hc, show g + 1 ≤ s.1 by omega]
  · rw [if_neg (by decide)]
    have hc := bv_1 (m := m) (v := s.1) (by omega) (by omega)
    by_cases c : q ≤ g ∧ m < s.1
    · rw [if_pos c]
      obtain ⟨M', u1, u2, u3, u4, u5⟩ := upd m (-(nI m)) (by unfold bvC; rw [if_neg (by decide), if_neg (by omega)])
      refine ⟨M', u1, u2, u3, u4, fun Q => ?_⟩
      rw [c90, u5]
      simp (disch := omega) only [s90_0, s90_1, s90_4, s90_7, s90_8, s90_9, s90_12, s90_13, s90_14, s90_15, s90_16, s90_19, s90_22, s90_23, s90_24, s90_27, s90_30, s90_31, s90_32, s90_35, s90_36, s90_39, s90_40, s90_41, s90_44, s90_45, s90_46, s90_49, z_lt_t, z_lt_f, z_le_t, z_le_f, z_lt0, z_ge0, z_cl, z_in, z_add, z_eq_f, z_ne0, z_00, z_10, z_01, z_11, z_neg1, z_nI_NONE, z_div, z_rem, z_rem2, sw_pu_s, sw_pu_n, true_and, and_true, true_or, or_true, if_true, if_false, not_true_eq_false, not_false_eq_true, b3, b4, a8, hc, show ¬ (s.1 ≤ m) by omega, kA, kL, kT, Nat.zero_add, and_self, Nat.le_refl]
    · rw [if_neg c]
      refine ⟨M, hB, hA, hP, sC.rf, fun Q => ?_⟩
      rw [c90]
      by_cases c1 : q ≤ g
      · simp (disch := omega) only [s90_0, s90_1, s90_4, s90_7, s90_8, s90_9, s90_12, s90_13, s90_14, s90_15, s90_16, s90_19, s90_22, s90_23, s90_24, s90_27, s90_30, s90_31, s90_32, s90_35, s90_36, s90_39, s90_40, s90_41, s90_44, s90_45, s90_46, s90_49, z_lt_t, z_lt_f, z_le_t, z_le_f, z_lt0, z_ge0, z_cl, z_in, z_add, z_eq_f, z_ne0, z_00, z_10, z_01, z_11, z_neg1, z_nI_NONE, z_div, z_rem, z_rem2, sw_pu_s, sw_pu_n, true_and, and_true, true_or, or_true, if_true, if_false, not_true_eq_false, not_false_eq_true, b3, b4, a8, hc, show s.1 ≤ m by omega]
      · simp (disch := omega) only [s90_0, s90_1, s90_4, s90_7, s90_8, s90_9, s90_12, s90_13, s90_14, s90_15, s90_16, s90_19, s90_22, s90_23, s90_24, s90_27, s90_30, s90_31, s90_32, s90_35, s90_36, s90_39, s90_40, s90_41, s90_44, s90_45, s90_46, s90_49, z_lt_t, z_lt_f, z_le_t, z_le_f, z_lt0, z_ge0, z_cl, z_in, z_add, z_eq_f, z_ne0, z_00, z_10, z_01, z_11, z_neg1, z_nI_NONE, z_div, z_rem, z_rem2, sw_pu_s, sw_pu_n, true_and, and_true, true_or, or_true, if_true, if_false, not_true_eq_false, not_false_eq_true, b3, b4, a8]
end MOA
