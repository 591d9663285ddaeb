section MOC
variable {d e q sp : Nat} {T : Tw} {t : Nat → Nat} {s : St} {M N : sw_Mem} {Q : Option Value → sw_Mem → Prop}
theorem cP_up {r b : Nat} {x : Int32} (hP : cP t r M) (hx : x = bn b) : cP (upT t r b) (r + 1) (sw_up M 105 r x) := by
  intro p hp
  by_cases c : p = r
  · subst c; rw [z_up_s, upT_s, hx]
  · rw [z_up_j _ _ c, upT_n _ _ c]; exact hP p (by omega)
theorem cP_dn {r b : Nat} (hP : cP (upT t r b) (r + 1) M) : cP t r M := by
  intro p hp
  rw [hP p (by omega), upT_n _ _ (by omega)]
theorem k224 {r b m : Nat} {x tk g : Int32} (hV : IsV M 34 T) (h5 : M 91 5 = nI 34) (hW : WF T) (hr : r < T 1) (hm : m < 2 ^ 20) (hx : x = bn b) (hb : b = 4 ∨ b < T 0) {M' : sw_Mem}
    (h : ∀ Q, sw_Cal d 89 [.ref 91, .int (nI (r + 1)), .int tk, .int g, .int (nI (m + if T (37 + r) = b then 0 else 1))] (sw_up M 105 r x) Q = Q none M') :
    sw_Cal (d + 1) 224 [.ref 91, .int x, .int (nI r), .int tk, .int g, .int (nI m)] M Q = Q none M' := by
  have w0 := hW.1
  have w1 := hW.2.1
  have y5 := (hV.2.2.1 r hr).2.2.2.2
  have y6 := (hW.2.2.2.2.2.1 r hr).2.2.2.2.2
  rw [c224]
  rcases hb with rfl | hb
  · obtain rfl : x = -1000000 := hx.trans bn_4
    by_cases c : T (37 + r) = 4
    · rw [if_pos c] at h
      simp only [Nat.add_zero] at h
      simp (disch := omega) only [s224_0, s224_1, s224_4, s224_5, s224_6, s224_7, s224_8, s224_9, s224_10, s224_11, s224_12, s224_14, s224_15, s224_18, s224_21, s224_22, s224_23, s224_24, s224_27, s224_29, s224_32, s224_34, s224_35, s224_36, s224_39, z_lt_t, z_lt_f, z_le_t, z_le_f, z_lt0, z_ge0, z_cl, z_in, z_add, z_eq_f, z_ne0, z_00, z_10, z_01, z_11, z_neg1, z_nI_NONE, z_div, z_rem, z_rem2, sw_pu_s, sw_pu_n, true_and, and_true, true_or, or_true, if_true, if_false, not_true_eq_false, not_false_eq_true, h5, kd34, sw_vk5 kd34, sw_vn5 kd34, y5, z_up_n, z_bn, c, h]
    · rw [if_neg c] at h
      simp (disch := omega) only [s224_0, s224_1, s224_4, s224_5, s224_6, s224_7, s224_8, s224_9, s224_10, s224_11, s224_12, s224_14, s224_15, s224_18, s224_21, s224_22, s224_23, s224_24, s224_27, s224_29, s224_32, s224_34, s224_35, s224_36, s224_39, z_lt_t, z_lt_f, z_le_t, z_le_f, z_lt0, z_ge0, z_cl, z_in, z_add, z_eq_f, z_ne0, z_00, z_10, z_01, z_11, z_neg1, z_nI_NONE, z_div, z_rem, z_rem2, sw_pu_s, sw_pu_n, true_and, and_true, true_or, or_true, if_true, if_false, not_true_eq_false, not_false_eq_true, h5, kd34, sw_vk5 kd34, sw_vn5 kd34, y5, z_up_n, z_bn, c, h]
  · obtain rfl : x = nI b := hx.trans (bn_n (by omega))
    by_cases c : T (37 + r) = b
    · rw [if_pos c] at h
      simp only [Nat.add_zero] at h
      simp (disch := omega) only [s224_0, s224_1, s224_4, s224_5, s224_6, s224_7, s224_8, s224_9, s224_10, s224_11, s224_12, s224_14, s224_15, s224_18, s224_21, s224_22, s224_23, s224_24, s224_27, s224_29, s224_32, s224_34, s224_35, s224_36, s224_39, z_lt_t, z_lt_f, z_le_t, z_le_f, z_lt0, z_ge0, z_cl, z_in, z_add, z_eq_f, z_ne0, z_00, z_10, z_01, z_11, z_neg1, z_nI_NONE, z_div, z_rem, z_rem2, sw_pu_s, sw_pu_n, true_and, and_true, true_or, or_true, if_true, if_false, not_true_eq_false, not_false_eq_true, h5, kd34, sw_vk5 kd34, sw_vn5 kd34, y5, z_up_n, z_bn_b, c, h]
    · rw [if_neg c] at h
      simp (disch := omega) only [s224_0, s224_1, s224_4, s224_5, s224_6, s224_7, s224_8, s224_9, s224_10, s224_11, s224_12, s224_14, s224_15, s224_18, s224_21, s224_22, s224_23, s224_24, s224_27, s224_29, s224_32, s224_34, s224_35, s224_36, s224_39, z_lt_t, z_lt_f, z_le_t, z_le_f, z_lt0, z_ge0, z_cl, z_in, z_add, z_eq_f, z_ne0, z_00, z_10, z_01, z_11, z_neg1, z_nI_NONE, z_div, z_rem, z_rem2, sw_pu_s, sw_pu_n, true_and, and_true, true_or, or_true, if_true, if_false, not_true_eq_false, not_false_eq_true, h5, kd34, sw_vk5 kd34, sw_vn5 kd34, y5, z_up_n, z_bn_b, c, h]
theorem k89 (hT : OKT T) (he : e ≤ 60) (hq : q < 1000) (hq0 : sp = 0 → q = 0) : ∀ n r tk (t : Nat → Nat) (s : St) (M : sw_Mem), r + n = T 1 → tk < 16 → (∀ p, p < r → t p = 4 ∨ t p < T 0) → okS sp s → cB T e q sp M → cA T sp s M → cP t r M →
    ∃ M', cB T e q sp M' ∧ cA T sp (cf (fun s t => lf sp q T e s t) (T 0) n r tk t s) M' ∧ cP t r M' ∧ sC M M' ∧ okS sp (cf (fun s t => lf sp q T e s t) (T 0) n r tk t s) ∧ ∀ Q, sw_Cal (d + 2 * n + 2) 89 [.ref 91, .int (nI r), .int (nI tk), .int (nI (gD T e t r)), .int (nI (mD T t r))] M Q = Q none M' := by
  have hW := hT.1
  have w0 := hW.1
  have w1 := hW.2.1
  intro n
  induction n with
  | zero =>
    intro r tk t s M hr htk ht hs hB hA hP
    obtain rfl : r = T 1 := by omega
    obtain ⟨M', a1, a2, a3, a4, a5⟩ := k90 (d := d) hT he hq hq0 ht hs hB hA hP
    refine ⟨M', a1, a2, a3, a4, lf_ok hT he hs ht, fun Q => ?_⟩
    have g4 := hB.1.2.1.2.2.2.2
    have h5 := hB.2.1
    rw [show d + 2 * 0 + 2 = d + 2 by omega, c89]
    by_cases c : T 1 = 4
    · have c' : 4 ≤ T 1 := by omega
      simp (disch := omega) only [s89_0, s89_1, s89_2, s89_5, s89_6, s89_7, s89_10, s89_13, s89_16, s89_17, s89_18, s89_20, s89_23, z_lt_t, z_lt_f, z_le_t, z_le_f, z_lt0, z_ge0, z_cl, z_in, z_add, z_eq_f, z_ne0, z_00, z_10, z_01, z_11, z_neg1, z_nI_NONE, z_div, z_rem, z_rem2, sw_pu_s, sw_pu_n, true_and, and_true, true_or, or_true, if_true, if_false, not_true_eq_false, not_false_eq_true, h5, kd34, g4, a5]
    · have c' : T 1 < 4 := by omega
      simp (disch := omega) only [s89_0, s89_1, s89_2, s89_5, s89_6, s89_7, s89_10, s89_13, s89_16, s89_17, s89_18, s89_20, s89_23, z_lt_t, z_lt_f, z_le_t, z_le_f, z_lt0, z_ge0, z_cl, z_in, z_add, z_eq_f, z_ne0, z_00, z_10, z_01, z_11, z_neg1, z_nI_NONE, z_div, z_rem, z_rem2, sw_pu_s, sw_pu_n, true_and, and_true, true_or, or_true, if_true, if_false, not_true_eq_false, not_false_eq_true, h5, kd34, g4, a5]
  | succ n ih =>
    intro r tk t s M hr htk ht hs hB hA hP
    have g4 := hB.1.2.1.2.2.2.2
    have h5 := hB.2.1
    have hk := kd_wo (r := r) (by omega)
    have hm := mD_le T t r
    have hg := gD_le hT he r ht
    have htu : ∀ b, b = 4 ∨ b < T 0 → ∀ p, p < r + 1 → upT t r b p = 4 ∨ upT t r b p < T 0 := by
      intro b hb p hp
      by_cases c : p = r
      · subst c; rw [upT_s]; exact hb
      · rw [upT_n _ _ c]; exact ht p (by omega)
    rw [cf_s]
    have L : ∀ m b (s : St) (M : sw_Mem), b + m = T 0 → okS sp s → cB T e q sp M → cA T sp s M → cP t r M →
        ∃ M', cB T e q sp M' ∧ cA T sp (blf (fun b s => if b = 4 then cf (fun s t => lf sp q T e s t) (T 0) n (r + 1) tk (upT t r 4) s else if bit tk b = 1 then s else cf (fun s t => lf sp q T e s t) (T 0) n (r + 1) (tk + 2 ^ b) (upT t r b) s) m b s) M' ∧ cP t r M' ∧ sC M M' ∧ okS sp (blf (fun b s => if b = 4 then cf (fun s t => lf sp q T e s t) (T 0) n (r + 1) tk (upT t r 4) s else if bit tk b = 1 then s else cf (fun s t => lf sp q T e s t) (T 0) n (r + 1) (tk + 2 ^ b) (upT t r b) s) m b s) ∧ ∀ Q, sw_WP (d + 2 * n + 2 + 1) 89 27 [.ref 91, .int (nI r), .int (nI tk), .int (nI (gD T e t r)), .int (nI (mD T t r)), .int (nI b)] [] M Q = Q none M' := by
      intro m
      induction m with
      | zero =>
        intro b s M hb hs hB hA hP
        obtain rfl : b = T 0 := by omega
        rw [blf_0, if_pos rfl]
        have g3 := hB.1.2.1.2.2.2.1
        have h5 := hB.2.1
        obtain ⟨M', a1, a2, a3, a4, a5, a6⟩ := ih (r + 1) tk (upT t r 4) s (sw_up M 105 r (-1000000)) (by omega) htk (htu 4 (Or.inl rfl)) hs (cB_p hB (fun k h1 h2 => z_up_n _ _ h1) w1) ⟨by rw [z_up_n _ _ (by omega)]; exact hA.1, fun h r hr => by rw [z_up_n _ _ (by omega)]; exact hA.2 h r hr⟩ (cP_up hP bn_4.symm)
        rw [gD_u, mD_u, if_pos rfl, Nat.add_zero (gD T e t r)] at a6
        have h224 := fun Q => k224 (d := d + 2 * n + 2) (Q := Q) hB.1 h5 hW (show r < T 1 by omega) (show mD T t r < 2 ^ 20 by omega) bn_4.symm (Or.inl rfl) a6
        refine ⟨M', a1, a2, cP_dn a3, (sC.rf.up (by omega)).tr a4, a5, fun Q => ?_⟩
        refine (s89_27 ..).trans ?_
        simp (disch := omega) only [s89_29, s89_30, s89_33, s89_36, s89_80, s89_81, s89_83, s89_84, s89_85, s89_86, s89_88, s89_91, z_lt_t, z_lt_f, z_le_t, z_le_f, z_lt0, z_ge0, z_cl, z_in, z_add, z_eq_f, z_ne0, z_00, z_10, z_01, z_11, z_neg1, z_nI_NONE, z_div, z_rem, z_rem2, sw_pu_s, sw_pu_n, true_and, and_true, true_or, or_true, if_true, if_false, not_true_eq_false, not_false_eq_true, h5, kd34, g3, h224]
      | succ m ihm =>
        intro b s M hb hs hB hA hP
        have g3 := hB.1.2.1.2.2.2.1
        have h5 := hB.2.1
        have hw := hB.2.2.2.2 r (by omega) b (by omega)
        have hbt := bit_sh htk (show b < 4 by omega)
        have hor := bit_or htk (show b < 4 by omega)
        rw [blf_s]
        rw [if_neg (show ¬ b = 4 by omega)]
        by_cases c : bit tk b = 1
        · rw [if_pos c]
          obtain ⟨M', a1, a2, a3, a4, a5, a6⟩ := ihm (b + 1) s M (by omega) hs hB hA hP
          refine ⟨M', a1, a2, a3, a4, a5, fun Q => ?_⟩
          rw [← a6 Q]
          refine (s89_27 ..).trans ?_
          simp (disch := omega) only [s89_29, s89_30, s89_33, s89_36, s89_39, s89_40, s89_42, s89_43, s89_44, s89_45, s89_74, s89_77, z_lt_t, z_lt_f, z_le_t, z_le_f, z_lt0, z_ge0, z_cl, z_in, z_add, z_eq_f, z_ne0, z_00, z_10, z_01, z_11, z_neg1, z_nI_NONE, z_div, z_rem, z_rem2, sw_pu_s, sw_pu_n, true_and, and_true, true_or, or_true, if_true, if_false, not_true_eq_false, not_false_eq_true, h5, kd34, g3, hbt, c]
        · rw [if_neg c]
          rw [if_neg c] at hor
          have c0 : bit tk b = 0 := (bit_01 tk b).resolve_right c
          have hWg := Wg_le hT he (r := r) (show b < T 0 by omega)
          obtain ⟨M1, b1, b2, b3, b4, b5, b6⟩ := ih (r + 1) (tk + 2 ^ b) (upT t r b) s (sw_up M 105 r (nI b)) (by omega) (bit_s htk (by omega) (x := 0) (by omega) c).1 (htu b (Or.inr (by omega))) hs (cB_p hB (fun k h1 h2 => z_up_n _ _ h1) w1) ⟨by rw [z_up_n _ _ (by omega)]; exact hA.1, fun h r hr => by rw [z_up_n _ _ (by omega)]; exact hA.2 h r hr⟩ (cP_up hP (bn_n (by omega)).symm)
          rw [gD_u, mD_u, if_neg (show ¬ b = 4 by omega)] at b6
          have h224 := fun Q => k224 (d := d + 2 * n + 2) (Q := Q) hB.1 h5 hW (show r < T 1 by omega) (show mD T t r < 2 ^ 20 by omega) (bn_n (show b ≠ 4 by omega)).symm (Or.inr (show b < T 0 by omega)) b6
          obtain ⟨M', a1, a2, a3, a4, a5, a6⟩ := ihm (b + 1) _ M1 (by omega) b5 b1 b2 (cP_dn b3)
          refine ⟨M', a1, a2, a3, ((sC.rf.up (by omega)).tr b4).tr a4, a5, fun Q => ?_⟩
          rw [← a6 Q]
          refine (s89_27 ..).trans ?_
          simp (disch := omega) only [s89_29, s89_30, s89_33, s89_36, s89_39, s89_40, s89_42, s89_43, s89_44, s89_45, s89_48, s89_49, s89_51, s89_52, s89_53, s89_54, s89_56, s89_57, s89_58, s89_59, s89_60, s89_63, s89_64, s89_65, s89_67, s89_68, s89_69, s89_71, s89_74, s89_77, z_lt_t, z_lt_f, z_le_t, z_le_f, z_lt0, z_ge0, z_cl, z_in, z_add, z_eq_f, z_ne0, z_00, z_10, z_01, z_11, z_neg1, z_nI_NONE, z_div, z_rem, z_rem2, sw_pu_s, sw_pu_n, true_and, and_true, true_or, or_true, if_true, if_false, not_true_eq_false, not_false_eq_true, h5, kd34, g3, hbt, c0, hk.1, hk.2, hw, hor, h224]
    obtain ⟨M', a1, a2, a3, a4, a5, a6⟩ := L (T 0) 0 s M (by omega) hs hB hA hP
    refine ⟨M', a1, a2, a3, a4, a5, fun Q => ?_⟩
    rw [← a6 Q, show d + 2 * (n + 1) + 2 = d + 2 * n + 2 + 1 + 1 by omega, c89]
    simp (disch := omega) only [s89_0, s89_1, s89_2, s89_5, s89_6, s89_7, s89_10, s89_13, s89_16, s89_17, s89_18, s89_20, s89_23, s89_24, s89_25, z_lt_t, z_lt_f, z_le_t, z_le_f, z_lt0, z_ge0, z_cl, z_in, z_add, z_eq_f, z_ne0, z_00, z_10, z_01, z_11, z_neg1, z_nI_NONE, z_div, z_rem, z_rem2, sw_pu_s, sw_pu_n, true_and, and_true, true_or, or_true, if_true, if_false, not_true_eq_false, not_false_eq_true, h5, kd34, g4]
def s0 (sp : Nat) : St := (nn sp, fun _ => 4)
theorem s0_ok (h : sp = 0 ∨ sp = 1) : okS sp (s0 sp) := by
  rcases h with rfl | rfl
  · exact Or.inl ⟨rfl, by decide⟩
  · exact Or.inr ⟨rfl, by decide⟩
/-- the best one -/
def bst (sp q : Nat) (T : Tw) (e : Nat) : St := cf (fun s t => lf sp q T e s t) (T 0) (T 1) 0 0 (fun _ => 0) (s0 sp)
theorem k88 (hT : OKT T) (he : e ≤ 60) (hq : q < 1000) (hsp : sp = 0 ∨ sp = 1) (hq0 : sp = 0 → q = 0) (hV : IsV M 34 T) (h5 : M 91 5 = nI 34) (h7 : M 91 7 = nI sp) (hw : ∀ r, r < T 1 → ∀ b, b < T 0 → M (100 + r) b = nI (Wg T e r b)) :
    ∃ M', cB T e q sp M' ∧ cA T sp (bst sp q T e) M' ∧ sC M M' ∧ okS sp (bst sp q T e) ∧ ∀ Q, sw_Cal (d + 11) 88 [.ref 91, .int (nI q)] M Q = Q none M' := by
  have w1 := hT.1.2.1
  obtain ⟨M', a1, a2, a3, a4, a5, a6⟩ := k89 (d := d + 2 * (4 - T 1)) hT he hq hq0 (T 1) 0 0 (fun _ => 0) (s0 sp) (sw_up (sw_up M 91 6 (nI q)) 91 8 (-5)) (by omega) (by omega) (fun p hp => absurd hp (Nat.not_lt_zero p)) (s0_ok hsp) ⟨IsV_c hV (fun k _ _ => by rw [z_up_n _ _ (by omega), z_up_n _ _ (by omega)]), by rw [z_up_j _ _ (by omega), z_up_j _ _ (by omega)]; exact h5, by rw [z_up_j _ _ (by omega), z_up_s], by rw [z_up_j _ _ (by omega), z_up_j _ _ (by omega)]; exact h7, fun r hr b hb => by rw [z_up_n _ _ (by omega), z_up_n _ _ (by omega)]; exact hw r hr b hb⟩ ⟨by rw [z_up_s]; unfold s0 nn bvC; rcases hsp with rfl | rfl <;> rfl, fun h => absurd rfl h⟩ (fun p hp => absurd hp (Nat.not_lt_zero p))
  refine ⟨M', a1, a2, ((sC.rf.up (by omega)).up (by omega)).tr a4, a5, fun Q => ?_⟩
  rw [show d + 2 * (4 - T 1) + 2 * T 1 + 2 = d + 10 by omega] at a6
  have a6 : ∀ Q, sw_Cal (d + 10) 89 [.ref 91, .int (nI 0), .int (nI 0), .int (nI 0), .int (nI 0)] (sw_up (sw_up M 91 6 (nI q)) 91 8 (-5)) Q = Q none M' := a6
  rw [c88]
  simp (disch := omega) only [s88_0, s88_1, s88_2, s88_5, s88_6, s88_8, s88_11, s88_12, s88_13, s88_14, s88_15, s88_16, s88_19, z_lt_t, z_lt_f, z_le_t, z_le_f, z_lt0, z_ge0, z_cl, z_in, z_add, z_eq_f, z_ne0, z_00, z_10, z_01, z_11, z_neg1, z_nI_NONE, z_div, z_rem, z_rem2, sw_pu_s, sw_pu_n, true_and, and_true, true_or, or_true, if_true, if_false, not_true_eq_false, not_false_eq_true, a6]
end MOC
