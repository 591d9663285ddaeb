/-! the model tries all in their order -/
def nxV (k b : Nat) : Nat := if b + 1 < k then b + 1 else 4
theorem upT_id {T : Nat → Nat} {i x : Nat} (h : T i = x) : upT T i x = T := by
  funext j
  by_cases e : j = i
  · subst e; rw [upT_s, h]
  · rw [upT_n _ _ e]
theorem odo (inv : (Nat → Nat) → St → sw_Mem → Prop) (WH WN : Value → St → sw_Mem → (Option Value → sw_Mem → Prop) → Prop) (f : St → (Nat → Nat) → St) (k n0 : Nat) (hk0 : 0 < k) (hk : k ≤ 4) (P : St → Prop)
    (hf : ∀ s t, P s → (∀ q, q < n0 → t q = 4 ∨ t q < k) → P (f s t))
    (hH : ∀ y t s N, P s → (∀ q, q < n0 → t q = 4 ∨ t q < k) → inv t s N → ∃ y' N', inv t (f s t) N' ∧ ∀ Q, WH y s N Q = WN y' (f s t) N' Q)
    (hN : ∀ y t t' r s N, P s → r < n0 → (∀ q, q < n0 → t q = 4 ∨ t q < k) → inv t s N → t r < k → (∀ q, r < q → q < n0 → t q = 4) → (∀ q, r < q → q < n0 → t' q = 0) → t' r = nxV k (t r) → (∀ q, q < r ∨ n0 ≤ q → t' q = t q) → ∃ y' N', inv t' s N' ∧ ∀ Q, WN y s N Q = WH y' s N' Q) :
    ∀ n r (t : Nat → Nat) s N y, r + n = n0 → (∀ q, r ≤ q → q < n0 → t q = 0) → (∀ q, q < n0 → t q = 4 ∨ t q < k) → P s → inv t s N →
      ∃ y' N' t', inv t' (mf f k n r t s) N' ∧ P (mf f k n r t s) ∧ (∀ q, q < n0 → t' q = 4 ∨ t' q < k) ∧ (∀ q, r ≤ q → q < n0 → t' q = 4) ∧ (∀ q, q < r ∨ n0 ≤ q → t' q = t q) ∧ ∀ Q, WH y s N Q = WN y' (mf f k n r t s) N' Q := by
  intro n
  induction n with
  | zero =>
    intro r t s N y hr h0 ht hp hi
    obtain ⟨y', N', a1, a2⟩ := hH y t s N hp ht hi
    exact ⟨y', N', t, a1, hf s t hp ht, ht, fun q h1 h2 => by omega, fun q _ => rfl, a2⟩
  | succ n ih =>
    intro r t s N y hr h0 ht hp hi
    rw [mf_s]
    have tu : ∀ b, b = 4 ∨ b < k → ∀ q, q < n0 → upT t r b q = 4 ∨ upT t r b q < k := by
      intro b hb q hq
      by_cases e : q = r
      · subst e; rw [upT_s]; exact hb
      · rw [upT_n _ _ e]; exact ht q hq
    have L : ∀ m b s N y, b + m = k → P s → inv (upT t r (if m = 0 then 4 else b)) s N →
        ∃ y' N' t', inv t' (blf (fun b s => mf f k n (r + 1) (upT t r b) s) m b s) N' ∧ P (blf (fun b s => mf f k n (r + 1) (upT t r b) s) m b s) ∧ (∀ q, q < n0 → t' q = 4 ∨ t' q < k) ∧ (∀ q, r ≤ q → q < n0 → t' q = 4) ∧ (∀ q, q < r ∨ n0 ≤ q → t' q = t q) ∧ ∀ Q, WH y s N Q = WN y' (blf (fun b s => mf f k n (r + 1) (upT t r b) s) m b s) N' Q := by
      intro m
      induction m with
      | zero =>
        intro b s N y hb hp hi
        rw [if_pos rfl] at hi
        rw [blf_0]
        obtain ⟨y', N', t', a1, a2, a3, a4, a5, a6⟩ := ih (r + 1) (upT t r 4) s N y (by omega) (fun q h1 h2 => by rw [upT_n _ _ (by omega)]; exact h0 q (by omega) h2) (tu 4 (Or.inl rfl)) hp hi
        refine ⟨y', N', t', a1, a2, a3, fun q h1 h2 => ?_, fun q hq => ?_, a6⟩
        · by_cases e : q = r
          · rw [e, a5 r (by omega), upT_s]
          · exact a4 q (by omega) h2
        · rw [a5 q (by omega), upT_n _ _ (by omega)]
      | succ m ihm =>
        intro b s N y hb hp hi
        rw [if_neg (Nat.succ_ne_zero m)] at hi
        rw [blf_s]
        obtain ⟨y1, N1, t1, a1, a2, a3, a4, a5, a6⟩ := ih (r + 1) (upT t r b) s N y (by omega) (fun q h1 h2 => by rw [upT_n _ _ (by omega)]; exact h0 q (by omega) h2) (tu b (Or.inr (by omega))) hp hi
        have er : t1 r = b := by rw [a5 r (by omega), upT_s]
        obtain ⟨y2, N2, b1, b2⟩ := hN y1 t1 (upT t r (if m = 0 then 4 else b + 1)) r _ N1 a2 (by omega) a3 a1 (by omega) (fun q h1 h2 => a4 q (by omega) h2) (fun q h1 h2 => by rw [upT_n _ _ (by omega)]; exact h0 q (by omega) h2) (by
          rw [upT_s, er]
          unfold nxV
          by_cases e : m = 0
          · rw [if_pos e, if_neg (by omega)]
          · rw [if_neg e, if_pos (by omega)]) (fun q hq => by rw [upT_n _ _ (by omega), a5 q (by omega), upT_n _ _ (by omega)])
        obtain ⟨y3, N3, t3, c1, c2, c3, c4, c5, c6⟩ := ihm (b + 1) _ N2 y2 (by omega) a2 b1
        exact ⟨y3, N3, t3, c1, c2, c3, c4, c5, fun Q => by rw [a6, b2, c6]⟩
    exact L k 0 s N y (by omega) hp (by rw [if_neg (by omega), upT_id (h0 r (by omega) (by omega))]; exact hi)
theorem WF_lieC2 {T : Tw} (hW : WF T) {c : Nat → Nat} (h1 : ∀ r, r < T 1 → c r = 4 ∨ c r < T 0) (h2 : ∀ r, r < T 1 → ∀ q, q < T 1 → c r = c q → c r ≠ 4 → r = q) : WF (lieC T c) := by
  obtain ⟨w0, w1, w2, w3, w4, wr, wb, wi⟩ := hW
  have e : ∀ i, i < 37 → lieC T c i = T i := fun i hi => lieC_o _ _ (by omega)
  refine ⟨by rw [e _ (by omega)]; exact w0, by rw [e _ (by omega)]; exact w1, by rw [e _ (by omega)]; exact w2, by rw [e _ (by omega)]; exact w3, by rw [e _ (by omega)]; exact w4, fun q hq => ?_, fun b hb => ?_, fun q hq p hp h h4 => ?_⟩
  · rw [e _ (by omega)] at hq
    obtain ⟨y1, y2, y3, y4, y5, y6⟩ := wr q hq
    rw [e (21 + q) (by omega), e (25 + q) (by omega), e (29 + q) (by omega), e (33 + q) (by omega), e 0 (by omega), lieC_r _ _ (by omega)]
    exact ⟨y1, y2, y3, y4, y5, h1 q hq⟩
  · rw [e _ (by omega)] at hb
    rw [e (5 + b) (by omega), e (9 + b) (by omega), e (13 + b) (by omega)]
    exact wb b hb
  · rw [e _ (by omega)] at hq hp
    rw [lieC_r _ _ (by omega)] at h h4
    rw [lieC_r _ _ (by omega)] at h
    exact h2 q hq p hp h h4
def cTr (T : Tw) (t : Nat → Nat) (n : Nat) : Nat → Nat := fun r => if r < n then t r else T (37 + r)
theorem cTr_s (T : Tw) (t : Nat → Nat) (n : Nat) : upT (cTr T t n) n (t n) = cTr T t (n + 1) := by
  funext r
  unfold cTr
  by_cases e : r = n
  · subst e; rw [upT_s, if_pos (by omega)]
  · rw [upT_n _ _ e]
    by_cases h : r < n
    · rw [if_pos h, if_pos (by omega)]
    · rw [if_neg h, if_neg (by omega)]
theorem cTr_0 (T : Tw) (t : Nat → Nat) : lieC T (cTr T t 0) = T := by
  funext i
  unfold lieC cTr
  split
  · rw [if_neg (by omega), show 37 + (i - 37) = i by omega]
  · rfl
theorem gd_cT {T : Tw} (hT : OKT T) {d : Nat} (hd : d ≤ 60) {t : Nat → Nat} (ht : ∀ q, q < T 1 → t q = 4 ∨ t q < T 0) (hv : vdF t (T 1) 0 0 = true) : WF (lieC T (cTr T t (T 1))) ∧ gdT (lieC T (cTr T t (T 1))) d = gD T d t (T 1) := by
  have w0 := hT.1.1
  have w1 := hT.1.2.1
  have h9 := hT.2.2.1
  have hi := (vdF_inj (t := t) (T 1) 0 0 (by omega) (fun q _ hq => by have := ht q (by omega); omega) hv).2
  have e : ∀ r, r < T 1 → cTr T t (T 1) r = t r := fun r hr => if_pos hr
  have hW : WF (lieC T (cTr T t (T 1))) := WF_lieC2 hT.1 (fun r hr => by rw [e r hr]; exact ht r hr) (fun r hr q hq h h4 => by
    rw [e r hr] at h h4
    rw [e q hq] at h
    rcases Nat.lt_trichotomy r q with c | c | c
    · exact absurd h (hi r q (by omega) c (by omega) h4)
    · exact c
    · exact absurd h.symm (hi q r (by omega) c (by omega) (by omega)))
  refine ⟨hW, ?_⟩
  rw [gd_sum hW d (by rw [lieC_o _ _ (by omega)]; omega), lieC_o _ _ (show 1 < 37 ∨ 41 ≤ 1 by omega)]
  unfold gD
  refine sm_cong (fun r hr => ?_)
  rw [lieC_r _ _ (by omega), e r hr]
  by_cases h : t r = 4
  · rw [if_pos h, if_pos h]
  · rw [if_neg h, if_neg h]
    unfold Wg
    have ea : al (lieC T (cTr T t (T 1))) r (t r) = al T r (t r) := by
      funext i
      by_cases c : 37 ≤ i ∧ i < 41
      · unfold al; rw [if_pos c, if_pos c]
      · rw [al_o _ (by omega), al_o _ (by omega), lieC_o _ _ (by omega)]
    rw [ea]
section MOM
variable {d e q sp : Nat} {T : Tw} {t : Nat → Nat} {s : St} {M N : sw_Mem} {Q : Option Value → sw_Mem → Prop}
def mT (T : Tw) (t : Nat → Nat) (N : sw_Mem) : Prop := IsM N 0 T ∧ ∀ r, r < 4 → N 9 r = nI (t r)
def oks (T : Tw) (t : Nat → Nat) : Prop := ∀ p, p < T 1 → t p = 4 ∨ t p < T 0
theorem k186L (hM : mT T t N) (hW : WF T) (ht : oks T t) : ∀ n r tk, r + n = T 1 → tk < 16 → sw_WP (d + 1) 186 4 [.ref 0, .int (nI tk), .int (nI r)] [] N Q = Q (some (.int (b1 (vdF t n r tk)))) N := by
  have w0 := hW.1
  have w1 := hW.2.1
  have g1 := hM.1.z 1 (by omega)
  intro n
  induction n with
  | zero =>
    intro r tk hr htk
    obtain rfl : r = T 1 := by omega
    refine (s186_4 ..).trans ?_
    simp (disch := omega) only [s186_0, s186_1, s186_2, s186_3, s186_5, s186_6, s186_9, s186_10, s186_11, s186_14, s186_15, s186_18, s186_19, s186_20, s186_21, s186_24, s186_25, s186_26, s186_29, s186_30, s186_31, s186_34, s186_37, s186_38, s186_39, s186_40, s186_41, s186_44, s186_45, s186_46, s186_47, s186_50, s186_51, s186_54, s186_55, s186_56, s186_59, s186_60, s186_61, s186_62, s186_63, s186_64, s186_67, s186_70, s186_71, z_lt_t, z_lt_f, z_le_t, z_le_f, z_lt0, z_ge0, z_cl, z_in, z_add, z_eq_f, z_ne0, z_00, z_10, z_01, z_11, z_neg1, z_nI_NONE, z_div, z_rem, z_rem2, sw_pu_s, sw_pu_n, true_and, and_true, true_or, or_true, if_true, if_false, not_true_eq_false, not_false_eq_true, g1]
    rfl
  | succ n ih =>
    intro r tk hr htk
    have f := hM.2 r (by omega)
    have y := ht r (by omega)
    rw [vdF_s]
    refine (s186_4 ..).trans ?_
    by_cases c4 : t r = 4
    · rw [if_pos c4, ← ih (r + 1) tk (by omega) htk]
      rw [c4] at f
      simp (disch := omega) only [s186_0, s186_1, s186_2, s186_3, s186_5, s186_6, s186_9, s186_10, s186_11, s186_14, s186_15, s186_18, s186_19, s186_20, s186_21, s186_24, s186_25, s186_26, s186_29, s186_30, s186_31, s186_34, s186_37, s186_38, s186_39, s186_40, s186_41, s186_44, s186_45, s186_46, s186_47, s186_50, s186_51, s186_54, s186_55, s186_56, s186_59, s186_60, s186_61, s186_62, s186_63, s186_64, s186_67, s186_70, s186_71, z_lt_t, z_lt_f, z_le_t, z_le_f, z_lt0, z_ge0, z_cl, z_in, z_add, z_eq_f, z_ne0, z_00, z_10, z_01, z_11, z_neg1, z_nI_NONE, z_div, z_rem, z_rem2, sw_pu_s, sw_pu_n, true_and, and_true, true_or, or_true, if_true, if_false, not_true_eq_false, not_false_eq_true, g1, f, or_n0]
    · rw [if_neg c4]
      have h130 := fun d Q => k130 (d := d) (M := N) (Q := Q) htk (show t r < 4 by omega)
      have hor := bit_or htk (show t r < 4 by omega)
      by_cases c : bit tk (t r) = 1
      · rw [if_pos c, b1_f]
        simp (disch := omega) only [s186_0, s186_1, s186_2, s186_3, s186_5, s186_6, s186_9, s186_10, s186_11, s186_14, s186_15, s186_18, s186_19, s186_20, s186_21, s186_24, s186_25, s186_26, s186_29, s186_30, s186_31, s186_34, s186_37, s186_38, s186_39, s186_40, s186_41, s186_44, s186_45, s186_46, s186_47, s186_50, s186_51, s186_54, s186_55, s186_56, s186_59, s186_60, s186_61, s186_62, s186_63, s186_64, s186_67, s186_70, s186_71, z_lt_t, z_lt_f, z_le_t, z_le_f, z_lt0, z_ge0, z_cl, z_in, z_add, z_eq_f, z_ne0, z_00, z_10, z_01, z_11, z_neg1, z_nI_NONE, z_div, z_rem, z_rem2, sw_pu_s, sw_pu_n, true_and, and_true, true_or, or_true, if_true, if_false, not_true_eq_false, not_false_eq_true, g1, f, h130, c]
      · rw [if_neg c] at hor
        rw [if_neg c, ← ih (r + 1) (tk + 2 ^ t r) (by omega) (bit_s htk (by omega) (x := 0) (by omega) c).1]
        simp (disch := omega) only [s186_0, s186_1, s186_2, s186_3, s186_5, s186_6, s186_9, s186_10, s186_11, s186_14, s186_15, s186_18, s186_19, s186_20, s186_21, s186_24, s186_25, s186_26, s186_29, s186_30, s186_31, s186_34, s186_37, s186_38, s186_39, s186_40, s186_41, s186_44, s186_45, s186_46, s186_47, s186_50, s186_51, s186_54, s186_55, s186_56, s186_59, s186_60, s186_61, s186_62, s186_63, s186_64, s186_67, s186_70, s186_71, z_lt_t, z_lt_f, z_le_t, z_le_f, z_lt0, z_ge0, z_cl, z_in, z_add, z_eq_f, z_ne0, z_00, z_10, z_01, z_11, z_neg1, z_nI_NONE, z_div, z_rem, z_rem2, sw_pu_s, sw_pu_n, true_and, and_true, true_or, or_true, if_true, if_false, not_true_eq_false, not_false_eq_true, g1, f, h130, c, hor]
theorem k186 (hM : mT T t N) (hW : WF T) (ht : oks T t) : sw_Cal (d + 2) 186 [.ref 0] N Q = Q (some (.int (b1 (vdF t (T 1) 0 0)))) N := by
  have := k186L (d := d) (Q := Q) hM hW ht (T 1) 0 0 (by omega) (by omega)
  rw [c186]
  simp (disch := omega) only [s186_0, s186_1, s186_2, s186_3]
  exact this
theorem k188L (hM : mT T t N) (hW : WF T) (ht : oks T t) : ∀ n r, r + n = T 1 → sw_WP d 188 4 [.ref 0, .int (nI (mD T t r)), .int (nI r)] [] N Q = Q (some (.int (nI (mD T t (T 1))))) N := by
  have w0 := hW.1
  have w1 := hW.2.1
  have g1 := hM.1.z 1 (by omega)
  intro n
  induction n with
  | zero =>
    intro r hr
    obtain rfl : r = T 1 := by omega
    refine (s188_4 ..).trans ?_
    simp (disch := omega) only [s188_0, s188_1, s188_2, s188_3, s188_5, s188_6, s188_9, s188_10, s188_11, s188_14, s188_15, s188_16, s188_19, s188_20, s188_21, s188_22, s188_25, s188_27, s188_28, s188_29, s188_30, s188_33, s188_34, s188_37, s188_38, s188_39, s188_40, s188_43, s188_46, s188_47, z_lt_t, z_lt_f, z_le_t, z_le_f, z_lt0, z_ge0, z_cl, z_in, z_add, z_eq_f, z_ne0, z_00, z_10, z_01, z_11, z_neg1, z_nI_NONE, z_div, z_rem, z_rem2, sw_pu_s, sw_pu_n, true_and, and_true, true_or, or_true, if_true, if_false, not_true_eq_false, not_false_eq_true, g1]
  | succ n ih =>
    intro r hr
    have f := hM.2 r (by omega)
    have f2 := hM.1.z (37 + r) (by omega)
    have y := ht r (by omega)
    have y6 := (hW.2.2.2.2.2.1 r (by omega)).2.2.2.2.2
    have hm := mD_le T t r
    have := ih (r + 1) (by omega)
    have ed : mD T t (r + 1) = mD T t r + if T (37 + r) = t r then 0 else 1 := rfl
    rw [ed] at this
    refine (s188_4 ..).trans ?_
    by_cases c : T (37 + r) = t r
    · rw [if_pos c] at this
      rw [← c] at f
      simp (disch := omega) only [s188_0, s188_1, s188_2, s188_3, s188_5, s188_6, s188_9, s188_10, s188_11, s188_14, s188_15, s188_16, s188_19, s188_20, s188_21, s188_22, s188_25, s188_27, s188_28, s188_29, s188_30, s188_33, s188_34, s188_37, s188_38, s188_39, s188_40, s188_43, s188_46, s188_47, z_lt_t, z_lt_f, z_le_t, z_le_f, z_lt0, z_ge0, z_cl, z_in, z_add, z_eq_f, z_ne0, z_00, z_10, z_01, z_11, z_neg1, z_nI_NONE, z_div, z_rem, z_rem2, sw_pu_s, sw_pu_n, true_and, and_true, true_or, or_true, if_true, if_false, not_true_eq_false, not_false_eq_true, g1, f, f2]
      exact this
    · rw [if_neg c] at this
      simp (disch := omega) only [s188_0, s188_1, s188_2, s188_3, s188_5, s188_6, s188_9, s188_10, s188_11, s188_14, s188_15, s188_16, s188_19, s188_20, s188_21, s188_22, s188_25, s188_27, s188_28, s188_29, s188_30, s188_33, s188_34, s188_37, s188_38, s188_39, s188_40, s188_43, s188_46, s188_47, z_lt_t, z_lt_f, z_le_t, z_le_f, z_lt0, z_ge0, z_cl, z_in, z_add, z_eq_f, z_ne0, z_00, z_10, z_01, z_11, z_neg1, z_nI_NONE, z_div, z_rem, z_rem2, sw_pu_s, sw_pu_n, true_and, and_true, true_or, or_true, if_true, if_false, not_true_eq_false, not_false_eq_true, g1, f, f2]
      exact this
theorem k188 (hM : mT T t N) (hW : WF T) (ht : oks T t) : sw_Cal (d + 1) 188 [.ref 0] N Q = Q (some (.int (nI (mD T t (T 1))))) N := by
  have := k188L (d := d) (Q := Q) hM hW ht (T 1) 0 (by omega)
  rw [c188]
  simp (disch := omega) only [s188_0, s188_1, s188_2, s188_3]
  exact this
theorem k187L (hW : WF T) : ∀ n r (N : sw_Mem), r + n = T 1 → mT T t N → IsM N 1107 (lieC T (cTr T t r)) → ∃ N', mT T t N' ∧ IsM N' 1107 (lieC T (cTr T t (T 1))) ∧ OfM N N' 1107 ∧ ∀ Q, sw_WP d 187 6 [.ref 0, .int (nI e), .int (nI r)] [] N Q = sw_WP d 187 38 [.ref 0, .int (nI e), .int (nI (T 1))] [] N' Q := by
  have w0 := hW.1
  have w1 := hW.2.1
  intro n
  induction n with
  | zero =>
    intro r N hr hM hL
    obtain rfl : r = T 1 := by omega
    have g1 := hM.1.z 1 (by omega)
    refine ⟨N, hM, hL, OfM.rf, fun Q => ?_⟩
    refine (s187_6 ..).trans ?_
    simp (disch := omega) only [s187_7, s187_8, s187_11, s187_12, s187_13, z_lt_t, z_lt_f, z_le_t, z_le_f, z_lt0, z_ge0, z_cl, z_in, z_add, z_eq_f, z_ne0, z_00, z_10, z_01, z_11, z_neg1, z_nI_NONE, z_div, z_rem, z_rem2, sw_pu_s, sw_pu_n, true_and, and_true, true_or, or_true, if_true, if_false, not_true_eq_false, not_false_eq_true, g1]
  | succ n ih =>
    intro r N hr hM hL
    have g1 := hM.1.z 1 (by omega)
    have f := hM.2 r (by omega)
    have h3 := IsM.up hL (37 + r) (t r)
    have o3 : OfM N (sw_up N 1 (1107 + (37 + r)) (nI (t r))) 1107 := OfM.rf.up (by omega)
    rw [lieC_up _ _ (by omega), cTr_s, show 1107 + (37 + r) = 1144 + r by omega] at h3
    rw [show 1107 + (37 + r) = 1144 + r by omega] at o3
    obtain ⟨N', a1, a2, a3, a4⟩ := ih (r + 1) (sw_up N 1 (1144 + r) (nI (t r))) (by omega) ⟨IsM_c hM.1 (fun j _ _ => z_up_j _ _ (by omega)), fun p hp => by rw [z_up_n _ _ (by omega)]; exact hM.2 p hp⟩ h3
    refine ⟨N', a1, a2, o3.tr a3, fun Q => ?_⟩
    rw [← a4 Q]
    refine (s187_6 ..).trans ?_
    simp (disch := omega) only [s187_7, s187_8, s187_11, s187_12, s187_13, s187_16, s187_17, s187_20, s187_23, s187_24, s187_25, s187_26, s187_29, s187_30, s187_31, s187_32, s187_35, z_lt_t, z_lt_f, z_le_t, z_le_f, z_lt0, z_ge0, z_cl, z_in, z_add, z_eq_f, z_ne0, z_00, z_10, z_01, z_11, z_neg1, z_nI_NONE, z_div, z_rem, z_rem2, sw_pu_s, sw_pu_n, true_and, and_true, true_or, or_true, if_true, if_false, not_true_eq_false, not_false_eq_true, g1, f]
theorem k187 (hM : mT T t N) (hT : OKT T) (hL : 0 < T 2) (ht : oks T t) (he : e ≤ 60) (hv : vdF t (T 1) 0 0 = true) : ∃ N', mT T t N' ∧ OfM N N' 1107 ∧ ∀ Q, sw_Cal (d + 5) 187 [.ref 0, .int (nI e)] N Q = Q (some (.int (nI (gD T e t (T 1))))) N' := by
  have hW := hT.1
  have h9 := hT.2.2.1
  have hL0 := cpT_IsM (b := 1107) hM.1
  rw [← cTr_0 T t] at hL0
  have hM0 : mT T t (cpT N 0 1107 41) := ⟨cpT_keep hM.1 (by omega), fun p hp => by rw [cpT_k (by omega)]; exact hM.2 p hp⟩
  obtain ⟨N1, a1, a2, a3, a4⟩ := k187L (d := d + 4) (e := e) hW (T 1) 0 _ (by omega) hM0 hL0
  obtain ⟨hWc, eg⟩ := gd_cT hT he ht hv
  have o : ∀ i, i < 37 → lieC T (cTr T t (T 1)) i = T i := fun i hi => lieC_o _ _ (by omega)
  obtain ⟨N2, b1, b2, b3⟩ := k166 (d := d) (n := e) a2 hWc (by rw [o _ (by omega)]; exact hL) (F := 144 * T 4) (fun c hc => by rw [o _ (by omega)] at hc; rw [o _ (by have := hW.1; omega)]; exact hT.2.1 c hc) (by omega) (by rw [o _ (by omega)]; omega) (by omega)
  rw [eg] at b3
  refine ⟨N2, ⟨IsM_c a1.1 (fun j _ _ => b2.2 j (by omega)), fun p hp => by rw [b2.1 9 (by omega)]; exact a1.2 p hp⟩, (cpT_OfM.tr a3).tr b2, fun Q => ?_⟩
  rw [c187]
  simp (disch := omega) only [s187_0, s187_1, s187_4, s187_5, z_lt_t, z_lt_f, z_le_t, z_le_f, z_lt0, z_ge0, z_cl, z_in, z_add, z_eq_f, z_ne0, z_00, z_10, z_01, z_11, z_neg1, z_nI_NONE, z_div, z_rem, z_rem2, sw_pu_s, sw_pu_n, true_and, and_true, true_or, or_true, if_true, if_false, not_true_eq_false, not_false_eq_true, k177]
  rw [cTr_0] at *
  rw [a4]
  simp (disch := omega) only [s187_38, s187_39, s187_42, s187_43, s187_46, z_lt_t, z_lt_f, z_le_t, z_le_f, z_lt0, z_ge0, z_cl, z_in, z_add, z_eq_f, z_ne0, z_00, z_10, z_01, z_11, z_neg1, z_nI_NONE, z_div, z_rem, z_rem2, sw_pu_s, sw_pu_n, true_and, and_true, true_or, or_true, if_true, if_false, not_true_eq_false, not_false_eq_true, b3]
end MOM
