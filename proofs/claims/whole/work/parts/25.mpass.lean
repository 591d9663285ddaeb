/-! the model: a town copied, a day -/
def cpT (M : sw_Mem) (a b n : Nat) : sw_Mem := sw_set M 1 (fun j => if b ≤ j ∧ j < b + n then M 1 (a + (j - b)) else M 1 j)
def OfM (M M' : sw_Mem) (B : Nat) : Prop := (∀ k, k ≠ 1 → M' k = M k) ∧ ∀ j, j < B ∨ B + 41 ≤ j → M' 1 j = M 1 j
theorem OfM.rf {M : sw_Mem} {B : Nat} : OfM M M B := ⟨fun _ _ => rfl, fun _ _ => rfl⟩
theorem OfM.tr {M M1 M2 : sw_Mem} {B : Nat} (h : OfM M M1 B) (h2 : OfM M1 M2 B) : OfM M M2 B := ⟨fun k hk => (h2.1 k hk).trans (h.1 k hk), fun j hj => (h2.2 j hj).trans (h.2 j hj)⟩
theorem OfM.up {M M1 : sw_Mem} {B i : Nat} {x : Int32} (h : OfM M M1 B) (hi : i < 41) : OfM M (sw_up M1 1 (B + i) x) B := ⟨fun k hk => (z_up_n _ _ hk).trans (h.1 k hk), fun j hj => (z_up_j _ _ (by omega)).trans (h.2 j hj)⟩
theorem cpT_k {M : sw_Mem} {a b n k : Nat} (h : k ≠ 1) : cpT M a b n k = M k := z_set_n _ _ h
theorem cpT_in {M : sw_Mem} {a b n i : Nat} (h : i < n) : cpT M a b n 1 (b + i) = M 1 (a + i) := by
  unfold cpT
  rw [z_set_s, if_pos (by omega), Nat.add_sub_cancel_left]
theorem cpT_out {M : sw_Mem} {a b n j : Nat} (h : j < b ∨ b + n ≤ j) : cpT M a b n 1 j = M 1 j := by
  unfold cpT
  rw [z_set_s, if_neg (by omega)]
theorem cpT_IsM {M : sw_Mem} {a b : Nat} {T : Tw} (h : IsM M a T) : IsM (cpT M a b 41) b T := fun i hi => by rw [cpT_in hi, h i hi]
theorem cpT_keep {M : sw_Mem} {a b c : Nat} {T : Tw} (h : IsM M c T) (hc : c + 41 ≤ b ∨ b + 41 ≤ c) : IsM (cpT M a b 41) c T := fun i hi => by rw [cpT_out (by omega), h i hi]
theorem cpT_OfM {M : sw_Mem} {a b : Nat} : OfM M (cpT M a b 41) b := ⟨fun _ hk => cpT_k hk, fun _ hj => cpT_out hj⟩
section MPA
variable {d B : Nat} {M : sw_Mem} {T : Tw} {Q : Option Value → sw_Mem → Prop}
theorem cpT_step {a b n : Nat} (hd : a + 41 ≤ b ∨ b + 41 ≤ a) (hn : n < 41) : sw_up (cpT M a b n) 1 (b + n) (cpT M a b n 1 (a + n)) = cpT M a b (n + 1) := by
  rw [cpT_out (by omega)]
  funext k j
  by_cases hk : k = 1
  · subst hk
    by_cases hj : j = b + n
    · subst hj
      rw [z_up_s, cpT_in (by omega)]
    · rw [z_up_j _ _ hj]
      unfold cpT
      rw [z_set_s, z_set_s]
      by_cases c : b ≤ j ∧ j < b + n
      · rw [if_pos c, if_pos (by omega)]
      · rw [if_neg c, if_neg (by omega)]
  · rw [z_up_n _ _ hk, cpT_k hk, cpT_k hk]
theorem k157L {a b : Nat} (hd : a + 41 ≤ b ∨ b + 41 ≤ a) (ha : a ≤ 1107) (hb : b ≤ 1107) : ∀ n i, i + n = 41 → sw_WP d 157 2 [.ref 0, .int (nI a), .int (nI b), .int (nI i)] [] (cpT M a b i) Q = Q none (cpT M a b 41) := by
  intro n
  induction n with
  | zero =>
    intro i h
    obtain rfl : i = 41 := by omega
    rw [s157_2]
    simp (disch := omega) only [s157_0, s157_1, s157_3, s157_5, s157_8, s157_9, s157_12, s157_13, s157_14, s157_15, s157_16, s157_19, s157_20, s157_21, s157_22, s157_23, s157_24, s157_27, s157_30, z_lt_t, z_lt_f, z_le_t, z_le_f, z_lt0, z_ge0, z_cl, z_in, z_add, z_eq_f, z_ne0, z_00, z_10, z_01, z_11, z_neg1, z_nI_NONE, z_div, z_rem, z_rem2, sw_pu_s, sw_pu_n, true_and, and_true, true_or, or_true, if_true, if_false, not_true_eq_false, not_false_eq_true]
  | succ n ih =>
    intro i h
    have := ih (i + 1) (by omega)
    rw [s157_2]
    simp (disch := omega) only [s157_0, s157_1, s157_3, s157_5, s157_8, s157_9, s157_12, s157_13, s157_14, s157_15, s157_16, s157_19, s157_20, s157_21, s157_22, s157_23, s157_24, s157_27, s157_30, z_lt_t, z_lt_f, z_le_t, z_le_f, z_lt0, z_ge0, z_cl, z_in, z_add, z_eq_f, z_ne0, z_00, z_10, z_01, z_11, z_neg1, z_nI_NONE, z_div, z_rem, z_rem2, sw_pu_s, sw_pu_n, true_and, and_true, true_or, or_true, if_true, if_false, not_true_eq_false, not_false_eq_true, cpT_step hd, this]
theorem k157 {a b : Nat} (hd : a + 41 ≤ b ∨ b + 41 ≤ a) (ha : a ≤ 1107) (hb : b ≤ 1107) : sw_Cal (d + 1) 157 [.ref 0, .int (nI a), .int (nI b)] M Q = Q none (cpT M a b 41) := by
  have h0 : cpT M a b 0 = M := by
    funext k j
    by_cases hk : k = 1
    · subst hk
      exact cpT_out (by omega)
    · rw [cpT_k hk]
  have := k157L (d := d) (M := M) (Q := Q) hd ha hb 41 0 (by omega)
  rw [h0] at this
  rw [c157]
  simp (disch := omega) only [s157_0, s157_1, s157_3, s157_5, s157_8, s157_9, s157_12, s157_13, s157_14, s157_15, s157_16, s157_19, s157_20, s157_21, s157_22, s157_23, s157_24, s157_27, s157_30, z_lt_t, z_lt_f, z_le_t, z_le_f, z_lt0, z_ge0, z_cl, z_in, z_add, z_eq_f, z_ne0, z_00, z_10, z_01, z_11, z_neg1, z_nI_NONE, z_div, z_rem, z_rem2, sw_pu_s, sw_pu_n, true_and, and_true, true_or, or_true, if_true, if_false, not_true_eq_false, not_false_eq_true, this]
def pq (T : Tw) (n m : Nat) : Tw := fun i =>
  if 17 ≤ i ∧ i < 21 then T i + (if wh T (i - 17) n < 4 then grT T (wh T (i - 17) n) (i - 17) else 0)
  else if 29 ≤ i ∧ i < 33 then (if i - 29 < m ∧ T (37 + (i - 29)) ≠ 4 then T i - wT T else T i)
  else if 9 ≤ i ∧ i < 13 then (if wh T (i - 9) m < 4 then T i - wT T - sT T (wh T (i - 9) m) else T i)
  else T i
theorem pq_pf (T : Tw) (n : Nat) : pq T n n = pf T n := rfl
theorem pq_fl (T : Tw) (n m : Nat) {b : Nat} (hb : b < 4) : pq T n m (17 + b) = T (17 + b) + (if wh T b n < 4 then grT T (wh T b n) b else 0) := by
  unfold pq
  rw [if_pos (by omega), Nat.add_sub_cancel_left]
theorem pq_fr (T : Tw) (n m : Nat) {r : Nat} (hr : r < 4) : pq T n m (29 + r) = if r < m ∧ T (37 + r) ≠ 4 then T (29 + r) - wT T else T (29 + r) := by
  unfold pq
  rw [if_neg (by omega), if_pos (by omega), Nat.add_sub_cancel_left]
theorem pq_fb (T : Tw) (n m : Nat) {b : Nat} (hb : b < 4) : pq T n m (9 + b) = if wh T b m < 4 then T (9 + b) - wT T - sT T (wh T b m) else T (9 + b) := by
  unfold pq
  rw [if_neg (by omega), if_neg (by omega), if_pos (by omega), Nat.add_sub_cancel_left]
theorem pq_o (T : Tw) (n m : Nat) {i : Nat} (h1 : i < 17 ∨ 21 ≤ i) (h2 : i < 29 ∨ 33 ≤ i) (h3 : i < 9 ∨ 13 ≤ i) : pq T n m i = T i := by
  unfold pq
  rw [if_neg (by omega), if_neg (by omega), if_neg (by omega)]
theorem pq_0 (T : Tw) : pq T 0 0 = T := pf_0 T
theorem pq1_no {T : Tw} {n : Nat} (h4 : T (37 + n) = 4) : pq T (n + 1) 0 = pq T n 0 := by
  funext i
  by_cases a1 : 17 ≤ i ∧ i < 21
  · obtain ⟨b, rfl⟩ : ∃ b, i = 17 + b := ⟨i - 17, by omega⟩
    rw [pq_fl _ _ _ (by omega), pq_fl _ _ _ (by omega), show wh T b (n + 1) = wh T b n by rw [wh_s, if_neg (by omega)]]
  · unfold pq
    rw [if_neg a1, if_neg a1]
theorem pq1_yes {T : Tw} (hW : WF T) {n : Nat} (hn : n < T 1) (h4 : T (37 + n) ≠ 4) : upT (pq T n 0) (17 + T (37 + n)) (pq T n 0 (17 + T (37 + n)) + grT T n (T (37 + n))) = pq T (n + 1) 0 := by
  have ho := wh_own hW hn h4
  have w0 := hW.1
  have y6 := (hW.2.2.2.2.2.1 n hn).2.2.2.2.2
  have w1 := hW.2.1
  generalize hb : T (37 + n) = b at h4 y6 ho
  rw [pq_fl _ _ _ (by omega), ho, if_neg (by omega), Nat.add_zero]
  funext i
  by_cases a1 : 17 ≤ i ∧ i < 21
  · obtain ⟨c, rfl⟩ : ∃ c, i = 17 + c := ⟨i - 17, by omega⟩
    by_cases e : c = b
    · subst e
      rw [upT_s, pq_fl _ _ _ (by omega), wh_s, if_pos hb, if_pos (by omega)]
    · rw [upT_n _ _ (by omega), pq_fl _ _ _ (by omega), pq_fl _ _ _ (by omega), show wh T c (n + 1) = wh T c n by rw [wh_s, if_neg (by omega)]]
  · rw [upT_n _ _ (by omega)]
    unfold pq
    rw [if_neg a1, if_neg a1]
theorem pq2_no {T : Tw} {N n : Nat} (h4 : T (37 + n) = 4) : pq T N (n + 1) = pq T N n := by
  funext i
  by_cases a1 : 17 ≤ i ∧ i < 21
  · unfold pq
    rw [if_pos a1, if_pos a1]
  · by_cases a2 : 29 ≤ i ∧ i < 33
    · obtain ⟨r, rfl⟩ : ∃ r, i = 29 + r := ⟨i - 29, by omega⟩
      rw [pq_fr _ _ _ (by omega), pq_fr _ _ _ (by omega)]
      by_cases e : r = n
      · subst e
        rw [if_neg (by omega), if_neg (by omega)]
      · by_cases c : r < n ∧ T (37 + r) ≠ 4
        · rw [if_pos c, if_pos (by omega)]
        · rw [if_neg c, if_neg (by omega)]
    · by_cases a3 : 9 ≤ i ∧ i < 13
      · obtain ⟨b, rfl⟩ : ∃ b, i = 9 + b := ⟨i - 9, by omega⟩
        rw [pq_fb _ _ _ (by omega), pq_fb _ _ _ (by omega), show wh T b (n + 1) = wh T b n by rw [wh_s, if_neg (by omega)]]
      · rw [pq_o _ _ _ (by omega) (by omega) (by omega), pq_o _ _ _ (by omega) (by omega) (by omega)]
theorem pq2_yes {T : Tw} (hW : WF T) {N n : Nat} (hn : n < T 1) (h4 : T (37 + n) ≠ 4) : upT (upT (pq T N n) (29 + n) (T (29 + n) - wT T)) (9 + T (37 + n)) (T (9 + T (37 + n)) - wT T - sT T n) = pq T N (n + 1) := by
  have ho := wh_own hW hn h4
  have w0 := hW.1
  have y6 := (hW.2.2.2.2.2.1 n hn).2.2.2.2.2
  have w1 := hW.2.1
  generalize hb : T (37 + n) = b at h4 y6 ho
  funext i
  by_cases a1 : 17 ≤ i ∧ i < 21
  · rw [upT_n _ _ (by omega), upT_n _ _ (by omega)]
    unfold pq
    rw [if_pos a1, if_pos a1]
  · by_cases a2 : 29 ≤ i ∧ i < 33
    · obtain ⟨r, rfl⟩ : ∃ r, i = 29 + r := ⟨i - 29, by omega⟩
      rw [upT_n _ _ (by omega)]
      by_cases e : r = n
      · subst e
        rw [upT_s, pq_fr _ _ _ (by omega), if_pos (by omega)]
      · rw [upT_n _ _ (by omega), pq_fr _ _ _ (by omega), pq_fr _ _ _ (by omega)]
        by_cases c : r < n ∧ T (37 + r) ≠ 4
        · rw [if_pos c, if_pos (by omega)]
        · rw [if_neg c, if_neg (by omega)]
    · by_cases a3 : 9 ≤ i ∧ i < 13
      · obtain ⟨c, rfl⟩ : ∃ c, i = 9 + c := ⟨i - 9, by omega⟩
        by_cases e : c = b
        · subst e
          rw [upT_s, pq_fb _ _ _ (by omega), wh_s, if_pos hb, if_pos (by omega)]
        · rw [upT_n _ _ (by omega), upT_n _ _ (by omega), pq_fb _ _ _ (by omega), pq_fb _ _ _ (by omega), show wh T c (n + 1) = wh T c n by rw [wh_s, if_neg (by omega)]]
      · rw [upT_n _ _ (by omega), upT_n _ _ (by omega), pq_o _ _ _ (by omega) (by omega) (by omega), pq_o _ _ _ (by omega) (by omega) (by omega)]
theorem WF_pq0 {T : Tw} (hW : WF T) (n : Nat) : WF (pq T n 0) := WF_cong hW (fun i hi => by
  unfold pq
  rw [if_neg hi]
  simp only [Nat.not_lt_zero, false_and, if_false, ite_self, wh, Nat.lt_irrefl])
theorem pq_gr {T : Tw} (hW : WF T) {n : Nat} (hn : n < T 1) (h4 : T (37 + n) ≠ 4) : grT (pq T n 0) n (T (37 + n)) = grT T n (T (37 + n)) := by
  have e : ∀ i, ¬ (17 ≤ i ∧ i < 21) → pq T n 0 i = T i := fun i hi => by
    unfold pq
    rw [if_neg hi]
    simp only [Nat.not_lt_zero, false_and, if_false, ite_self, wh, Nat.lt_irrefl]
  have y6 := (hW.2.2.2.2.2.1 n hn).2.2.2.2.2
  have w0 := hW.1
  have w1 := hW.2.1
  exact gr_cong (e _ (by omega)) (e _ (by omega)) (e _ (by omega)) (e _ (by omega)) (e _ (by omega)) (e _ (by omega)) (e _ (by omega)) (e _ (by omega)) (e _ (by omega))
set_option maxHeartbeats 2000000 in
theorem k165a (hW : WF T) {F : Nat} (hF : FB T F) (hFF : F ≤ 1000000) (hB : B ≤ 1107) : ∀ n r acc (x4 x5 : Value) (M : sw_Mem), r + n = T 1 → acc ≤ 36 * r → IsM M B (pq T r 0) →
    ∃ M' x4' x5', IsM M' B (pq T (T 1) 0) ∧ OfM M M' B ∧ ∀ Q, sw_WP (d + 2) 165 4 [.ref 0, .int (nI B), .int (nI acc), .int (nI r), x4, x5, sw_U] [] M Q = sw_WP (d + 2) 165 73 [.ref 0, .int (nI B), .int (nI (acc + gsF T n r)), .int (nI (T 1)), x4', x5', sw_U] [] M' Q := by
  have w0 := hW.1
  have w1 := hW.2.1
  intro n
  induction n with
  | zero =>
    intro r acc x4 x5 M h hacc hM
    obtain rfl : r = T 1 := by omega
    refine ⟨M, x4, x5, hM, OfM.rf, fun Q => ?_⟩
    have g1 := hM.at 1 (by omega)
    rw [pq_o _ _ _ (by omega) (by omega) (by omega)] at g1
    refine (s165_4 ..).trans ?_
    simp (disch := omega) only [s165_5, s165_6, s165_9, s165_10, s165_11, s165_12, s165_13, s165_16, s165_17, s165_20, s165_21, s165_23, s165_24, s165_25, s165_26, s165_27, s165_29, s165_31, s165_32, s165_35, s165_36, s165_37, s165_38, s165_40, s165_43, s165_45, s165_46, s165_48, s165_49, s165_50, s165_51, s165_54, s165_55, s165_57, s165_58, s165_60, s165_61, s165_62, s165_63, s165_65, s165_66, s165_67, s165_70, z_lt_t, z_lt_f, z_le_t, z_le_f, z_lt0, z_ge0, z_cl, z_in, z_add, z_eq_f, z_ne0, z_00, z_10, z_01, z_11, z_neg1, z_nI_NONE, z_div, z_rem, z_rem2, sw_pu_s, sw_pu_n, true_and, and_true, true_or, or_true, if_true, if_false, not_true_eq_false, not_false_eq_true, g1, gsF, Nat.add_zero]
  | succ n ih =>
    intro r acc x4 x5 M h hacc hM
    have hr : r < T 1 := by omega
    have g1 := hM.at 1 (by omega)
    rw [pq_o _ _ _ (by omega) (by omega) (by omega)] at g1
    have r5 := hM.at2 37 r (by omega)
    rw [pq_o _ _ _ (by omega) (by omega) (by omega)] at r5
    have y6 := (hW.2.2.2.2.2.1 r hr).2.2.2.2.2
    by_cases h4 : T (37 + r) = 4
    · have hg : gnT T r = 0 := by unfold gnT; rw [if_pos h4]
      obtain ⟨M', x4', x5', a1, a2, a3⟩ := ih (r + 1) acc (.int (nI 4)) x5 M (by omega) (by omega) (by rw [pq1_no h4]; exact hM)
      refine ⟨M', x4', x5', a1, a2, fun Q => ?_⟩
      rw [gsF_s, hg, Nat.zero_add, ← a3 Q]
      refine (s165_4 ..).trans ?_
      simp (disch := omega) only [s165_5, s165_6, s165_9, s165_10, s165_11, s165_12, s165_13, s165_16, s165_17, s165_20, s165_21, s165_23, s165_24, s165_25, s165_26, s165_27, s165_29, s165_31, s165_32, s165_35, s165_36, s165_37, s165_38, s165_40, s165_43, s165_45, s165_46, s165_48, s165_49, s165_50, s165_51, s165_54, s165_55, s165_57, s165_58, s165_60, s165_61, s165_62, s165_63, s165_65, s165_66, s165_67, s165_70, z_lt_t, z_lt_f, z_le_t, z_le_f, z_lt0, z_ge0, z_cl, z_in, z_add, z_eq_f, z_ne0, z_00, z_10, z_01, z_11, z_neg1, z_nI_NONE, z_div, z_rem, z_rem2, sw_pu_s, sw_pu_n, true_and, and_true, true_or, or_true, if_true, if_false, not_true_eq_false, not_false_eq_true, g1, r5, h4, not_true_eq_false]
    · have hb : T (37 + r) < T 0 := by omega
      have hpg := pq_gr hW hr h4
      have hyes := pq1_yes hW hr h4
      have hg : gnT T r = grT T r (T (37 + r)) := by unfold gnT; rw [if_neg h4]
      have hle := gnT_le hW hr
      have hfl : pq T r 0 (17 + T (37 + r)) ≤ F + 36 := by
        have := FB_pf hW hF (n := r) (by omega) (T (37 + r)) (by rw [pf_o _ _ (by omega) (by omega) (by omega)]; exact hb)
        rw [pf_fl _ _ (by omega)] at this
        rw [pq_fl _ _ _ (by omega)]
        exact this
      generalize hbb : T (37 + r) = b at h4 hb hpg hg r5 hyes hfl
      have h163 := fun Q => k163 (d := d) (Q := Q) hM hB (WF_pq0 hW r) (r := r) (b := b) (by rw [pq_o _ _ _ (by omega) (by omega) (by omega)]; exact hr) (by rw [pq_o _ _ _ (by omega) (by omega) (by omega)]; exact hb)
      rw [hpg] at h163
      have b6 := hM.at2 17 b (by omega)
      have hM1 := hM.up (17 + b) (pq T r 0 (17 + b) + grT T r b)
      rw [hyes, ← Nat.add_assoc] at hM1
      obtain ⟨M', x4', x5', a1, a2, a3⟩ := ih (r + 1) (acc + grT T r b) (.int (nI b)) (.int (nI (grT T r b))) _ (by omega) (by omega) hM1
      refine ⟨M', x4', x5', a1, OfM.tr (by rw [Nat.add_assoc]; exact OfM.rf.up (by omega)) a2, fun Q => ?_⟩
      rw [gsF_s, hg, ← Nat.add_assoc, ← a3 Q]
      refine (s165_4 ..).trans ?_
      simp (disch := omega) only [s165_5, s165_6, s165_9, s165_10, s165_11, s165_12, s165_13, s165_16, s165_17, s165_20, s165_21, s165_23, s165_24, s165_25, s165_26, s165_27, s165_29, s165_31, s165_32, s165_35, s165_36, s165_37, s165_38, s165_40, s165_43, s165_45, s165_46, s165_48, s165_49, s165_50, s165_51, s165_54, s165_55, s165_57, s165_58, s165_60, s165_61, s165_62, s165_63, s165_65, s165_66, s165_67, s165_70, z_lt_t, z_lt_f, z_le_t, z_le_f, z_lt0, z_ge0, z_cl, z_in, z_add, z_eq_f, z_ne0, z_00, z_10, z_01, z_11, z_neg1, z_nI_NONE, z_div, z_rem, z_rem2, sw_pu_s, sw_pu_n, true_and, and_true, true_or, or_true, if_true, if_false, not_true_eq_false, not_false_eq_true, g1, r5, h163, b6]
set_option maxHeartbeats 2000000 in
theorem k165b (hW : WF T) (hB : B ≤ 1107) (x2 : Nat) : ∀ n r (x5 x6 : Value) (M : sw_Mem), r + n = T 1 → IsM M B (pq T (T 1) r) →
    ∃ M', IsM M' B (psT T) ∧ OfM M M' B ∧ ∀ Q, sw_WP (d + 2) 165 102 [.ref 0, .int (nI B), .int (nI x2), .int (nI (wT T)), .int (nI r), x5, x6] [] M Q = Q (some (.int (nI x2))) M' := by
  have w0 := hW.1
  have w1 := hW.2.1
  have w4 := hW.2.2.2.2.1
  have hw := wT_le T
  intro n
  induction n with
  | zero =>
    intro r x5 x6 M h hM
    obtain rfl : r = T 1 := by omega
    have g1 := hM.at 1 (by omega)
    have g4 := hM.at 4 (by omega)
    rw [pq_o _ _ _ (by omega) (by omega) (by omega)] at g1 g4
    have hM1 := hM.up 4 (T 4 + 1)
    refine ⟨_, hM1, OfM.rf.up (by omega), fun Q => ?_⟩
    refine (s165_102 ..).trans ?_
    simp (disch := omega) only [s165_104, s165_105, s165_108, s165_109, s165_110, s165_111, s165_112, s165_115, s165_116, s165_119, s165_120, s165_122, s165_123, s165_125, s165_126, s165_127, s165_129, s165_131, s165_132, s165_135, s165_136, s165_139, s165_140, s165_142, s165_143, s165_145, s165_146, s165_147, s165_148, s165_151, s165_152, s165_155, s165_156, s165_158, s165_159, s165_162, s165_163, s165_165, s165_166, s165_168, s165_169, s165_170, s165_173, s165_174, s165_176, s165_177, s165_179, s165_180, s165_181, s165_182, s165_183, s165_186, s165_187, s165_188, s165_191, s165_192, s165_194, s165_195, s165_197, s165_198, s165_199, s165_202, s165_203, s165_205, s165_206, s165_208, s165_209, s165_210, s165_211, s165_212, s165_214, s165_215, s165_218, s165_219, s165_222, s165_225, s165_226, s165_229, s165_230, s165_231, s165_232, s165_233, s165_234, s165_235, s165_236, s165_237, s165_238, z_lt_t, z_lt_f, z_le_t, z_le_f, z_lt0, z_ge0, z_cl, z_in, z_add, z_eq_f, z_ne0, z_00, z_10, z_01, z_11, z_neg1, z_nI_NONE, z_div, z_rem, z_rem2, sw_pu_s, sw_pu_n, true_and, and_true, true_or, or_true, if_true, if_false, not_true_eq_false, not_false_eq_true, g1, g4]
  | succ n ih =>
    intro r x5 x6 M h hM
    have hr : r < T 1 := by omega
    have g1 := hM.at 1 (by omega)
    rw [pq_o _ _ _ (by omega) (by omega) (by omega)] at g1
    have r5 := hM.at2 37 r (by omega)
    rw [pq_o _ _ _ (by omega) (by omega) (by omega)] at r5
    have y6 := (hW.2.2.2.2.2.1 r hr).2.2.2.2.2
    have y4 := (hW.2.2.2.2.2.1 r hr).2.2.2.1
    have y1 := (hW.2.2.2.2.2.1 r hr).1
    by_cases h4 : T (37 + r) = 4
    · obtain ⟨M', a1, a2, a3⟩ := ih (r + 1) (.int (nI 4)) x6 M (by omega) (by rw [pq2_no h4]; exact hM)
      refine ⟨M', a1, a2, fun Q => ?_⟩
      rw [← a3 Q]
      refine (s165_102 ..).trans ?_
      simp (disch := omega) only [s165_104, s165_105, s165_108, s165_109, s165_110, s165_111, s165_112, s165_115, s165_116, s165_119, s165_120, s165_122, s165_123, s165_125, s165_126, s165_127, s165_129, s165_131, s165_132, s165_135, s165_136, s165_139, s165_140, s165_142, s165_143, s165_145, s165_146, s165_147, s165_148, s165_151, s165_152, s165_155, s165_156, s165_158, s165_159, s165_162, s165_163, s165_165, s165_166, s165_168, s165_169, s165_170, s165_173, s165_174, s165_176, s165_177, s165_179, s165_180, s165_181, s165_182, s165_183, s165_186, s165_187, s165_188, s165_191, s165_192, s165_194, s165_195, s165_197, s165_198, s165_199, s165_202, s165_203, s165_205, s165_206, s165_208, s165_209, s165_210, s165_211, s165_212, s165_214, s165_215, s165_218, s165_219, s165_222, s165_225, s165_226, s165_229, s165_230, s165_231, s165_232, s165_233, s165_234, s165_235, s165_236, s165_237, s165_238, z_lt_t, z_lt_f, z_le_t, z_le_f, z_lt0, z_ge0, z_cl, z_in, z_add, z_eq_f, z_ne0, z_00, z_10, z_01, z_11, z_neg1, z_nI_NONE, z_div, z_rem, z_rem2, sw_pu_s, sw_pu_n, true_and, and_true, true_or, or_true, if_true, if_false, not_true_eq_false, not_false_eq_true, g1, r5, h4, not_true_eq_false]
    · have hb : T (37 + r) < T 0 := by omega
      have hyes := pq2_yes hW (N := T 1) hr h4
      have ho := wh_own hW hr h4
      have hz := (hW.2.2.2.2.2.2.1 (T (37 + r)) hb).2.1
      generalize hbb : T (37 + r) = b at h4 hb r5 hyes ho hz
      have r4 := hM.at2 21 r (by omega)
      rw [pq_o _ _ _ (by omega) (by omega) (by omega)] at r4
      have r2 := hM.at2 29 r (by omega)
      rw [pq_fr _ _ _ (by omega), if_neg (by omega)] at r2
      have b2 := hM.at2 9 b (by omega)
      rw [pq_fb _ _ _ (by omega), ho, if_neg (by omega)] at b2
      have hM1 := (hM.up (29 + r) (T (29 + r) - wT T)).up (9 + b) (T (9 + b) - wT T - sT T r)
      rw [hyes, ← Nat.add_assoc, ← Nat.add_assoc] at hM1
      have hs := sT_le T r
      obtain ⟨M', a1, a2, a3⟩ := ih (r + 1) (.int (nI b)) (.int (nI (sT T r))) _ (by omega) hM1
      refine ⟨M', a1, OfM.tr (by rw [Nat.add_assoc B 29, Nat.add_assoc B 9]; exact (OfM.rf.up (by omega)).up (by omega)) a2, fun Q => ?_⟩
      rw [← a3 Q]
      have h132 := fun Q M => k132 (d := d + 1) (M := M) (Q := Q) (a := T (29 + r)) (b := wT T) (by omega) (by omega)
      have h132b := fun Q M => k132b (d := d + 1) (M := M) (Q := Q) (a := T (9 + b)) (b := wT T) (by omega) (by omega) (sT T r) (by omega)
      refine (s165_102 ..).trans ?_
      unfold sT at h132b ⊢
      by_cases h3 : T (21 + r) = 3
      · simp only [h3, if_true] at h132b ⊢
        simp (disch := omega) only [s165_104, s165_105, s165_108, s165_109, s165_110, s165_111, s165_112, s165_115, s165_116, s165_119, s165_120, s165_122, s165_123, s165_125, s165_126, s165_127, s165_129, s165_131, s165_132, s165_135, s165_136, s165_139, s165_140, s165_142, s165_143, s165_145, s165_146, s165_147, s165_148, s165_151, s165_152, s165_155, s165_156, s165_158, s165_159, s165_162, s165_163, s165_165, s165_166, s165_168, s165_169, s165_170, s165_173, s165_174, s165_176, s165_177, s165_179, s165_180, s165_181, s165_182, s165_183, s165_186, s165_187, s165_188, s165_191, s165_192, s165_194, s165_195, s165_197, s165_198, s165_199, s165_202, s165_203, s165_205, s165_206, s165_208, s165_209, s165_210, s165_211, s165_212, s165_214, s165_215, s165_218, s165_219, s165_222, s165_225, s165_226, s165_229, s165_230, s165_231, s165_232, s165_233, s165_234, s165_235, s165_236, s165_237, s165_238, z_lt_t, z_lt_f, z_le_t, z_le_f, z_lt0, z_ge0, z_cl, z_in, z_add, z_eq_f, z_ne0, z_00, z_10, z_01, z_11, z_neg1, z_nI_NONE, z_div, z_rem, z_rem2, sw_pu_s, sw_pu_n, true_and, and_true, true_or, or_true, if_true, if_false, not_true_eq_false, not_false_eq_true, g1, r5, r4, h3, h132, h132b, r2, z_up_j, b2, z_eq]
      · simp only [h3, if_false] at h132b ⊢
        simp (disch := omega) only [s165_104, s165_105, s165_108, s165_109, s165_110, s165_111, s165_112, s165_115, s165_116, s165_119, s165_120, s165_122, s165_123, s165_125, s165_126, s165_127, s165_129, s165_131, s165_132, s165_135, s165_136, s165_139, s165_140, s165_142, s165_143, s165_145, s165_146, s165_147, s165_148, s165_151, s165_152, s165_155, s165_156, s165_158, s165_159, s165_162, s165_163, s165_165, s165_166, s165_168, s165_169, s165_170, s165_173, s165_174, s165_176, s165_177, s165_179, s165_180, s165_181, s165_182, s165_183, s165_186, s165_187, s165_188, s165_191, s165_192, s165_194, s165_195, s165_197, s165_198, s165_199, s165_202, s165_203, s165_205, s165_206, s165_208, s165_209, s165_210, s165_211, s165_212, s165_214, s165_215, s165_218, s165_219, s165_222, s165_225, s165_226, s165_229, s165_230, s165_231, s165_232, s165_233, s165_234, s165_235, s165_236, s165_237, s165_238, z_lt_t, z_lt_f, z_le_t, z_le_f, z_lt0, z_ge0, z_cl, z_in, z_add, z_eq_f, z_ne0, z_00, z_10, z_01, z_11, z_neg1, z_nI_NONE, z_div, z_rem, z_rem2, sw_pu_s, sw_pu_n, true_and, and_true, true_or, or_true, if_true, if_false, not_true_eq_false, not_false_eq_true, g1, r5, r4, h3, h132, h132b, r2, z_up_j, b2, z_eq]
theorem k165 (hM : IsM M B T) (hW : WF T) (hL : 0 < T 2) {F : Nat} (hF : FB T F) (hFF : F ≤ 1000000) (hB : B ≤ 1107) : ∃ M', IsM M' B (psT T) ∧ OfM M M' B ∧ ∀ Q, sw_Cal (d + 3) 165 [.ref 0, .int (nI B)] M Q = Q (some (.int (nI (gsT T)))) M' := by
  obtain ⟨M1, x4, x5, a1, a2, a3⟩ := k165a (d := d) hW hF hFF hB (T 1) 0 0 sw_U sw_U M (by omega) (by omega) (by rw [pq_0]; exact hM)
  obtain ⟨M2, b1, b2, b3⟩ := k165b (d := d) hW hB (gsT T) (T 1) 0 x5 sw_U M1 (by omega) a1
  refine ⟨M2, b1, a2.tr b2, fun Q => ?_⟩
  have g4 := a1.at 4 (by omega)
  have g2 := a1.at 2 (by omega)
  rw [pq_o _ _ _ (by omega) (by omega) (by omega)] at g4 g2
  have w2 := hW.2.2.1
  have w4 := hW.2.2.2.2.1
  have h3 := a3 Q
  rw [Nat.zero_add, show gsF T (T 1) 0 = gsT T from rfl] at h3
  rw [c165]
  simp (disch := omega) only [s165_0, s165_1, s165_2, s165_3, h3]
  have h5 := b3 Q
  unfold wT at h5
  have hlt := Nat.mod_lt (T 4) hL
  by_cases h : T 4 % T 2 = 0
  · rw [if_pos ⟨hL, h⟩] at h5
    simp (disch := omega) only [s165_73, s165_74, s165_77, s165_78, s165_79, s165_80, s165_81, s165_82, s165_85, s165_86, s165_87, s165_88, s165_89, s165_90, s165_93, s165_94, s165_97, s165_98, s165_99, s165_100, z_lt_t, z_lt_f, z_le_t, z_le_f, z_lt0, z_ge0, z_cl, z_in, z_add, z_eq_f, z_ne0, z_00, z_10, z_01, z_11, z_neg1, z_nI_NONE, z_div, z_rem, z_rem2, sw_pu_s, sw_pu_n, true_and, and_true, true_or, or_true, if_true, if_false, not_true_eq_false, not_false_eq_true, g4, g2, h, h5]
  · rw [if_neg (fun q => h q.2)] at h5
    simp (disch := omega) only [s165_73, s165_74, s165_77, s165_78, s165_79, s165_80, s165_81, s165_82, s165_85, s165_86, s165_87, s165_88, s165_89, s165_90, s165_93, s165_94, s165_97, s165_98, s165_99, s165_100, z_lt_t, z_lt_f, z_le_t, z_le_f, z_lt0, z_ge0, z_cl, z_in, z_add, z_eq_f, z_ne0, z_00, z_10, z_01, z_11, z_neg1, z_nI_NONE, z_div, z_rem, z_rem2, sw_pu_s, sw_pu_n, true_and, and_true, true_or, or_true, if_true, if_false, not_true_eq_false, not_false_eq_true, g4, g2, h5]
end MPA
