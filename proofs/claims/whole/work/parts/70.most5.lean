section MON
variable {d e q sp : Nat} {T : Tw} {t : Nat → Nat} {s : St} {M N : sw_Mem} {Q : Option Value → sw_Mem → Prop}
def zf (T : Tw) (t : Nat → Nat) (j : Nat) : Nat → Nat := fun q => if j ≤ q ∧ q < T 1 then 0 else t q
theorem mT_c {t' : Nat → Nat} (h : mT T t N) (e : ∀ p, p < 4 → t' p = t p) : mT T t' N := ⟨h.1, fun p hp => by rw [e p hp]; exact h.2 p hp⟩
theorem mT_u (h : mT T t N) (r x : Nat) : mT T (upT t r x) (sw_up N 9 r (nI x)) := by
  refine ⟨IsM_c h.1 (fun j _ _ => by rw [z_up_n _ _ (by omega)]), fun p hp => ?_⟩
  by_cases c : p = r
  · subst c; rw [z_up_s, upT_s]
  · rw [z_up_j _ _ c, upT_n _ _ c]; exact h.2 p hp
theorem zf_u {j : Nat} (hj : j < T 1) : upT (zf T t (j + 1)) j 0 = zf T t j := by
  funext p
  unfold zf
  by_cases c : p = j
  · subst c; rw [upT_s, if_pos (by omega)]
  · rw [upT_n _ _ c]
    by_cases h : j ≤ p ∧ p < T 1
    · rw [if_pos h, if_pos (by omega)]
    · rw [if_neg h, if_neg (by omega)]
theorem k185L (hW : WF T) {r : Nat} (hr : r < T 1) (h4 : t r < T 0) (ha : ∀ q, r < q → q < T 1 → t q = 4) : ∀ m (N : sw_Mem), r + 1 + m ≤ T 1 → mT T (zf T t (r + 1 + m)) N → ∃ N', mT T (upT (zf T t (r + 1)) r (nxV (T 0) (t r))) N' ∧ (∀ k, k ≠ 9 → N' k = N k) ∧ ∀ Q, sw_WP d 185 9 [.ref 0, .int (nI (r + 1 + m) + (-1))] [] N Q = Q (some (.int (nI 1))) N' := by
  have w0 := hW.1
  have w1 := hW.2.1
  intro m
  induction m with
  | zero =>
    intro N hm hM
    have hM : mT T (zf T t (r + 1)) N := hM
    have g0 := hM.1.z 0 (by omega)
    have f := hM.2 r (by omega)
    have ez : zf T t (r + 1) r = t r := if_neg (by omega)
    rw [ez] at f
    refine ⟨_, mT_u hM r _, fun k hk => z_up_n _ _ hk, fun Q => ?_⟩
    rw [show r + 1 + 0 = r + 1 by omega, z_pm]
    unfold nxV
    refine (s185_9 ..).trans ?_
    by_cases c : t r + 1 < T 0
    · rw [if_pos c]
      simp (disch := omega) only [s185_10, s185_13, s185_14, s185_17, s185_18, s185_19, s185_20, s185_23, s185_24, s185_36, s185_37, s185_40, s185_41, s185_42, s185_43, s185_46, s185_47, s185_48, s185_51, s185_52, s185_53, s185_54, s185_55, s185_56, s185_59, s185_60, s185_61, s185_64, s185_65, s185_68, s185_69, s185_70, s185_71, s185_72, s185_75, s185_76, s185_77, s185_78, z_lt_t, z_lt_f, z_le_t, z_le_f, z_lt0, z_ge0, z_cl, z_in, z_add, z_eq_f, z_ne0, z_00, z_10, z_01, z_11, z_neg1, z_nI_NONE, z_div, z_rem, z_rem2, sw_pu_s, sw_pu_n, true_and, and_true, true_or, or_true, if_true, if_false, not_true_eq_false, not_false_eq_true, g0, f]
    · rw [if_neg c]
      simp (disch := omega) only [s185_10, s185_13, s185_14, s185_17, s185_18, s185_19, s185_20, s185_23, s185_24, s185_36, s185_37, s185_40, s185_41, s185_42, s185_43, s185_46, s185_47, s185_48, s185_51, s185_52, s185_53, s185_54, s185_55, s185_56, s185_59, s185_60, s185_61, s185_64, s185_65, s185_68, s185_69, s185_70, s185_71, s185_72, s185_75, s185_76, s185_77, s185_78, z_lt_t, z_lt_f, z_le_t, z_le_f, z_lt0, z_ge0, z_cl, z_in, z_add, z_eq_f, z_ne0, z_00, z_10, z_01, z_11, z_neg1, z_nI_NONE, z_div, z_rem, z_rem2, sw_pu_s, sw_pu_n, true_and, and_true, true_or, or_true, if_true, if_false, not_true_eq_false, not_false_eq_true, g0, f]
  | succ m ih =>
    intro N hm hM
    have f := hM.2 (r + 1 + m) (by omega)
    have ez : zf T t (r + 1 + (m + 1)) (r + 1 + m) = 4 := by
      unfold zf
      rw [if_neg (by omega)]
      exact ha _ (by omega) (by omega)
    rw [ez] at f
    have hU := mT_u hM (r + 1 + m) 0
    rw [show r + 1 + (m + 1) = r + 1 + m + 1 by omega, zf_u (by omega)] at hU
    obtain ⟨N', a1, a2, a3⟩ := ih _ (by omega) hU
    refine ⟨N', a1, fun k hk => (a2 k hk).trans (z_up_n _ _ hk), fun Q => ?_⟩
    rw [← a3 Q, show r + 1 + (m + 1) = r + 1 + m + 1 by omega, z_pm]
    refine (s185_9 ..).trans ?_
    simp (disch := omega) only [s185_10, s185_13, s185_14, s185_17, s185_18, s185_19, s185_20, s185_23, s185_24, s185_27, s185_28, s185_29, s185_30, s185_33, z_lt_t, z_lt_f, z_le_t, z_le_f, z_lt0, z_ge0, z_cl, z_in, z_add, z_eq_f, z_ne0, z_00, z_10, z_01, z_11, z_neg1, z_nI_NONE, z_div, z_rem, z_rem2, sw_pu_s, sw_pu_n, true_and, and_true, true_or, or_true, if_true, if_false, not_true_eq_false, not_false_eq_true, f]
theorem k185E (hW : WF T) (ha : ∀ q, q < T 1 → t q = 4) : ∀ j (N : sw_Mem), j ≤ T 1 → mT T (zf T t j) N → ∃ N', mT T (zf T t 0) N' ∧ (∀ k, k ≠ 9 → N' k = N k) ∧ ∀ Q, sw_WP d 185 9 [.ref 0, .int (nI j + (-1))] [] N Q = Q (some (.int (nI 0))) N' := by
  have w0 := hW.1
  have w1 := hW.2.1
  intro j
  induction j with
  | zero =>
    intro N _ hM
    refine ⟨N, hM, fun _ _ => rfl, fun Q => ?_⟩
    refine (s185_9 ..).trans ?_
    have zg : ((0 : Int32) ≤ nI 0 + (-1)) = False := eq_false (by decide)
    simp (disch := omega) only [s185_10, s185_36, s185_37, s185_40, s185_41, z_lt_t, z_lt_f, z_le_t, z_le_f, z_lt0, z_ge0, z_cl, z_in, z_add, z_eq_f, z_ne0, z_00, z_10, z_01, z_11, z_neg1, z_nI_NONE, z_div, z_rem, z_rem2, sw_pu_s, sw_pu_n, true_and, and_true, true_or, or_true, if_true, if_false, not_true_eq_false, not_false_eq_true, z_0m, zg]
  | succ j ih =>
    intro N hj hM
    have f := hM.2 j (by omega)
    have ez : zf T t (j + 1) j = 4 := by
      unfold zf
      rw [if_neg (by omega)]
      exact ha _ (by omega)
    rw [ez] at f
    have hU := mT_u hM j 0
    rw [zf_u (by omega)] at hU
    obtain ⟨N', a1, a2, a3⟩ := ih _ (by omega) hU
    refine ⟨N', a1, fun k hk => (a2 k hk).trans (z_up_n _ _ hk), fun Q => ?_⟩
    rw [← a3 Q, z_pm]
    refine (s185_9 ..).trans ?_
    simp (disch := omega) only [s185_10, s185_13, s185_14, s185_17, s185_18, s185_19, s185_20, s185_23, s185_24, s185_27, s185_28, s185_29, s185_30, s185_33, z_lt_t, z_lt_f, z_le_t, z_le_f, z_lt0, z_ge0, z_cl, z_in, z_add, z_eq_f, z_ne0, z_00, z_10, z_01, z_11, z_neg1, z_nI_NONE, z_div, z_rem, z_rem2, sw_pu_s, sw_pu_n, true_and, and_true, true_or, or_true, if_true, if_false, not_true_eq_false, not_false_eq_true, f]
theorem zf_T (t : Nat → Nat) : zf T t (T 1) = t := by
  funext p
  unfold zf
  rw [if_neg (by omega)]
theorem k185 (hM : mT T t N) (hW : WF T) {r : Nat} (hr : r < T 1) (h4 : t r < T 0) (ha : ∀ q, r < q → q < T 1 → t q = 4) {t' : Nat → Nat} (h1 : ∀ q, r < q → q < T 1 → t' q = 0) (h2 : t' r = nxV (T 0) (t r)) (h3 : ∀ q, q < r ∨ T 1 ≤ q → t' q = t q) : ∃ N', mT T t' N' ∧ (∀ k, k ≠ 9 → N' k = N k) ∧ ∀ Q, sw_Cal (d + 1) 185 [.ref 0] N Q = Q (some (.int (nI 1))) N' := by
  have w1 := hW.2.1
  have g1 := hM.1.z 1 (by omega)
  rw [← zf_T t] at hM
  obtain ⟨N', a1, a2, a3⟩ := k185L (d := d) hW hr h4 ha (T 1 - (r + 1)) N (by omega) (by rw [show r + 1 + (T 1 - (r + 1)) = T 1 by omega]; exact hM)
  rw [show r + 1 + (T 1 - (r + 1)) = T 1 by omega] at a3
  refine ⟨N', mT_c a1 (fun p hp => ?_), a2, fun Q => ?_⟩
  · by_cases c : p = r
    · subst c; rw [upT_s, h2]
    · rw [upT_n _ _ c]
      unfold zf
      by_cases c2 : r + 1 ≤ p ∧ p < T 1
      · rw [if_pos c2, h1 p (by omega) c2.2]
      · rw [if_neg c2, h3 p (by omega)]
  · rw [c185]
    simp (disch := omega) only [s185_0, s185_1, s185_4, s185_5, s185_6, s185_7, s185_8, z_lt_t, z_lt_f, z_le_t, z_le_f, z_lt0, z_ge0, z_cl, z_in, z_add, z_eq_f, z_ne0, z_00, z_10, z_01, z_11, z_neg1, z_nI_NONE, z_div, z_rem, z_rem2, sw_pu_s, sw_pu_n, true_and, and_true, true_or, or_true, if_true, if_false, not_true_eq_false, not_false_eq_true, g1, z_sm, a3]
theorem k185e (hM : mT T t N) (hW : WF T) (ha : ∀ q, q < T 1 → t q = 4) : ∃ N', (∀ k, k ≠ 9 → N' k = N k) ∧ ∀ Q, sw_Cal (d + 1) 185 [.ref 0] N Q = Q (some (.int (nI 0))) N' := by
  have w1 := hW.2.1
  have g1 := hM.1.z 1 (by omega)
  rw [← zf_T t] at hM
  obtain ⟨N', a1, a2, a3⟩ := k185E (d := d) hW ha (T 1) N (by omega) hM
  refine ⟨N', a2, fun Q => ?_⟩
  rw [c185]
  simp (disch := omega) only [s185_0, s185_1, s185_4, s185_5, s185_6, s185_7, s185_8, z_lt_t, z_lt_f, z_le_t, z_le_f, z_lt0, z_ge0, z_cl, z_in, z_add, z_eq_f, z_ne0, z_00, z_10, z_01, z_11, z_neg1, z_nI_NONE, z_div, z_rem, z_rem2, sw_pu_s, sw_pu_n, true_and, and_true, true_or, or_true, if_true, if_false, not_true_eq_false, not_false_eq_true, g1, z_sm, a3]
theorem k189L : ∀ n i (N : sw_Mem), i + n = 4 → (∀ p, p < i → N 9 p = nI 0) → ∃ N', (∀ p, p < 4 → N' 9 p = nI 0) ∧ (∀ k, k ≠ 9 → N' k = N k) ∧ ∀ Q, sw_WP d 189 2 [.ref 0, .int (nI i)] [] N Q = Q none N' := by
  intro n
  induction n with
  | zero =>
    intro i N hi h
    obtain rfl : i = 4 := by omega
    refine ⟨N, h, fun _ _ => rfl, fun Q => ?_⟩
    refine (s189_2 ..).trans ?_
    simp (disch := omega) only [s189_0, s189_1, s189_3, s189_4, s189_7, s189_8, s189_11, s189_12, s189_13, s189_14, s189_17, s189_20, z_lt_t, z_lt_f, z_le_t, z_le_f, z_lt0, z_ge0, z_cl, z_in, z_add, z_eq_f, z_ne0, z_00, z_10, z_01, z_11, z_neg1, z_nI_NONE, z_div, z_rem, z_rem2, sw_pu_s, sw_pu_n, true_and, and_true, true_or, or_true, if_true, if_false, not_true_eq_false, not_false_eq_true]
  | succ n ih =>
    intro i N hi h
    obtain ⟨N', a1, a2, a3⟩ := ih (i + 1) (sw_up N 9 i (nI 0)) (by omega) (fun p hp => by
      by_cases c : p = i
      · subst c; exact z_up_s _ _ _ _
      · rw [z_up_j _ _ c]; exact h p (by omega))
    refine ⟨N', a1, fun k hk => (a2 k hk).trans (z_up_n _ _ hk), fun Q => ?_⟩
    rw [← a3 Q]
    refine (s189_2 ..).trans ?_
    simp (disch := omega) only [s189_0, s189_1, s189_3, s189_4, s189_7, s189_8, s189_11, s189_12, s189_13, s189_14, s189_17, s189_20, z_lt_t, z_lt_f, z_le_t, z_le_f, z_lt0, z_ge0, z_cl, z_in, z_add, z_eq_f, z_ne0, z_00, z_10, z_01, z_11, z_neg1, z_nI_NONE, z_div, z_rem, z_rem2, sw_pu_s, sw_pu_n, true_and, and_true, true_or, or_true, if_true, if_false, not_true_eq_false, not_false_eq_true]
theorem k189 : ∃ N', (∀ p, p < 4 → N' 9 p = nI 0) ∧ (∀ k, k ≠ 9 → N' k = N k) ∧ ∀ Q, sw_Cal (d + 1) 189 [.ref 0] N Q = Q none N' := by
  obtain ⟨N', a1, a2, a3⟩ := k189L (d := d) 4 0 N (by omega) (fun p hp => absurd hp (Nat.not_lt_zero p))
  refine ⟨N', a1, a2, fun Q => ?_⟩
  rw [← a3 Q, c189]
  simp (disch := omega) only [s189_0, s189_1]
theorem k190L : ∀ n i (N : sw_Mem), i + n = 4 → (∀ p, p < i → N 10 p = N 9 p) → ∃ N', (∀ p, p < 4 → N' 10 p = N 9 p) ∧ (∀ k, k ≠ 10 → N' k = N k) ∧ ∀ Q, sw_WP d 190 2 [.ref 0, .int (nI i)] [] N Q = Q none N' := by
  intro n
  induction n with
  | zero =>
    intro i N hi h
    obtain rfl : i = 4 := by omega
    refine ⟨N, h, fun _ _ => rfl, fun Q => ?_⟩
    refine (s190_2 ..).trans ?_
    simp (disch := omega) only [s190_0, s190_1, s190_3, s190_4, s190_7, s190_8, s190_11, s190_12, s190_13, s190_16, s190_17, s190_18, s190_19, s190_22, s190_25, z_lt_t, z_lt_f, z_le_t, z_le_f, z_lt0, z_ge0, z_cl, z_in, z_add, z_eq_f, z_ne0, z_00, z_10, z_01, z_11, z_neg1, z_nI_NONE, z_div, z_rem, z_rem2, sw_pu_s, sw_pu_n, true_and, and_true, true_or, or_true, if_true, if_false, not_true_eq_false, not_false_eq_true]
  | succ n ih =>
    intro i N hi h
    obtain ⟨N', a1, a2, a3⟩ := ih (i + 1) (sw_up N 10 i (N 9 i)) (by omega) (fun p hp => by
      rw [z_up_n _ _ (show 9 ≠ 10 by omega)]
      by_cases c : p = i
      · subst c; exact z_up_s _ _ _ _
      · rw [z_up_j _ _ c]; exact h p (by omega))
    rw [z_up_n _ _ (show 9 ≠ 10 by omega)] at a1
    refine ⟨N', a1, fun k hk => (a2 k hk).trans (z_up_n _ _ hk), fun Q => ?_⟩
    rw [← a3 Q]
    refine (s190_2 ..).trans ?_
    simp (disch := omega) only [s190_0, s190_1, s190_3, s190_4, s190_7, s190_8, s190_11, s190_12, s190_13, s190_16, s190_17, s190_18, s190_19, s190_22, s190_25, z_lt_t, z_lt_f, z_le_t, z_le_f, z_lt0, z_ge0, z_cl, z_in, z_add, z_eq_f, z_ne0, z_00, z_10, z_01, z_11, z_neg1, z_nI_NONE, z_div, z_rem, z_rem2, sw_pu_s, sw_pu_n, true_and, and_true, true_or, or_true, if_true, if_false, not_true_eq_false, not_false_eq_true]
theorem k190 (hM : mT T t N) : ∃ N', mT T t N' ∧ (∀ p, p < 4 → N' 10 p = nI (t p)) ∧ (∀ k, k ≠ 10 → N' k = N k) ∧ ∀ Q, sw_Cal (d + 1) 190 [.ref 0] N Q = Q none N' := by
  obtain ⟨N', a1, a2, a3⟩ := k190L (d := d) 4 0 N (by omega) (fun p hp => absurd hp (Nat.not_lt_zero p))
  refine ⟨N', ⟨IsM_c hM.1 (fun j _ _ => by rw [a2 1 (by omega)]), fun p hp => by rw [a2 9 (by omega)]; exact hM.2 p hp⟩, fun p hp => (a1 p hp).trans (hM.2 p hp), a2, fun Q => ?_⟩
  rw [← a3 Q, c190]
  simp (disch := omega) only [s190_0, s190_1]
def mI (T : Tw) (sp : Nat) (N0 : sw_Mem) (t : Nat → Nat) (s : St) (N : sw_Mem) : Prop := mT T t N ∧ sM N0 N ∧ (s.1 ≠ nn sp → ∀ r, r < T 1 → N 10 r = nI (s.2 r))
def mP (T : Tw) (sp : Nat) (s : St) : Prop := okS sp s ∧ (s.1 ≠ nn sp → ∀ r, r < T 1 → s.2 r = 4 ∨ s.2 r < T 0)
def fV (sp q : Nat) (T : Tw) (e : Nat) (s : St) (t : Nat → Nat) : St := if vdF t (T 1) 0 0 = true then lf sp q T e s t else s
theorem fV_P (hT : OKT T) (he : e ≤ 60) (hs : mP T sp s) (ht : ∀ p, p < T 1 → t p = 4 ∨ t p < T 0) : mP T sp (fV sp q T e s t) := by
  unfold fV
  split
  · refine ⟨lf_ok hT he hs.1 ht, ?_⟩
    unfold lf
    split
    · split
      · exact fun _ => ht
      · exact hs.2
    · split
      · exact fun _ => ht
      · exact hs.2
  · exact hs
theorem mI_9 {N0 N' : sw_Mem} {t' : Nat → Nat} (h : mI T sp N0 t s N) (h1 : mT T t' N') (h2 : ∀ k, k ≠ 9 → N' k = N k) : mI T sp N0 t' s N' :=
  ⟨h1, h.2.1.tr ⟨fun k _ hk => h2 k (by omega), fun j _ => by rw [h2 1 (by omega)]⟩, fun hn r hr => by rw [h2 10 (by omega)]; exact h.2.2 hn r hr⟩
theorem mI_o {N0 N' : sw_Mem} (h : mI T sp N0 t s N) (h1 : mT T t N') (h2 : OfM N N' 1107) : mI T sp N0 t s N' :=
  ⟨h1, h.2.1.tr (sM.ofm h2), fun hn r hr => by rw [h2.1 10 (by omega)]; exact h.2.2 hn r hr⟩
theorem mI_10 {N0 N' : sw_Mem} {v : Nat} (h : mI T sp N0 t s N) (h1 : mT T t N') (h3 : ∀ p, p < 4 → N' 10 p = nI (t p)) (h2 : ∀ k, k ≠ 10 → N' k = N k) (w1 : T 1 ≤ 4) : mI T sp N0 t (v, t) N' :=
  ⟨h1, h.2.1.tr ⟨fun k _ hk => h2 k (by omega), fun j _ => by rw [h2 1 (by omega)]⟩, fun _ r hr => h3 r (by omega)⟩
end MON
