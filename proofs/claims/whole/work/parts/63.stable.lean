/-! weddings none would leave -/
def lieC (T : Tw) (c : Nat → Nat) : Tw := fun i => if 37 ≤ i ∧ i < 41 then c (i - 37) else T i
theorem lieC_r (T : Tw) (c : Nat → Nat) {r : Nat} (h : r < 4) : lieC T c (37 + r) = c r := by
  unfold lieC
  rw [if_pos (by omega), Nat.add_sub_cancel_left]
theorem lieC_o (T : Tw) (c : Nat → Nat) {i : Nat} (h : i < 37 ∨ 41 ≤ i) : lieC T c i = T i := by
  unfold lieC
  rw [if_neg (by omega)]
theorem lieC_gr (T : Tw) (c : Nat → Nat) {r b : Nat} (hr : r < 4) (hb : b < 4) : grT (lieC T c) r b = grT T r b :=
  gr_cong (lieC_o _ _ (by omega)) (lieC_o _ _ (by omega)) (lieC_o _ _ (by omega)) (lieC_o _ _ (by omega)) (lieC_o _ _ (by omega)) (lieC_o _ _ (by omega)) (lieC_o _ _ (by omega)) (lieC_o _ _ (by omega)) (lieC_o _ _ (by omega))
theorem lieC_up (T : Tw) (c : Nat → Nat) {r : Nat} (hr : r < 4) (x : Nat) : upT (lieC T c) (37 + r) x = lieC T (upT c r x) := by
  funext i
  by_cases e : i = 37 + r
  · subst e
    rw [upT_s, lieC_r _ _ hr, upT_s]
  · rw [upT_n _ _ e]
    by_cases h : 37 ≤ i ∧ i < 41
    · obtain ⟨q, rfl⟩ : ∃ q, i = 37 + q := ⟨i - 37, by omega⟩
      rw [lieC_r _ _ (by omega), lieC_r _ _ (by omega), upT_n _ _ (by omega)]
    · rw [lieC_o _ _ (by omega), lieC_o _ _ (by omega)]
def JC (T : Tw) (c : Nat → Nat) : Prop := (∀ r, r < 4 → c r = 4 ∨ c r < T 0) ∧ ∀ r, r < T 1 → ∀ q, q < T 1 → c r = c q → c r ≠ 4 → r = q
theorem WF_lieC {T : Tw} (hW : WF T) {c : Nat → Nat} (hJ : JC T c) : WF (lieC T c) := by
  obtain ⟨w0, w1, w2, w3, w4, wr, wb, wi⟩ := hW
  have e : ∀ i, i < 37 → lieC T c i = T i := fun i hi => lieC_o _ _ (by omega)
  refine ⟨by rw [e _ (by omega)]; exact w0, by rw [e _ (by omega)]; exact w1, by rw [e _ (by omega)]; exact w2, by rw [e _ (by omega)]; exact w3, by rw [e _ (by omega)]; exact w4, fun q hq => ?_, fun b hb => ?_, fun q hq p hp h h4 => ?_⟩
  · rw [e _ (by omega)] at hq
    obtain ⟨y1, y2, y3, y4, y5, y6⟩ := wr q hq
    rw [e (21 + q) (by omega), e (25 + q) (by omega), e (29 + q) (by omega), e (33 + q) (by omega), e 0 (by omega), lieC_r _ _ (by omega)]
    exact ⟨y1, y2, y3, y4, y5, hJ.1 q (by omega)⟩
  · rw [e _ (by omega)] at hb
    rw [e (5 + b) (by omega), e (9 + b) (by omega), e (13 + b) (by omega)]
    exact wb b hb
  · rw [e _ (by omega)] at hq hp
    rw [lieC_r _ _ (by omega)] at h h4
    rw [lieC_r _ _ (by omega)] at h
    exact hJ.2 q hq p hp h h4
def wnF (T : Tw) (s r : Nat) : Nat → Nat → Nat → Nat → Nat
  | 0, _, best, _ => best
  | n + 1, b, best, most => if bit s b = 0 ∧ most < grT T r b then wnF T s r n (b + 1) b (grT T r b) else wnF T s r n (b + 1) best most
theorem wnF_s (T : Tw) (s r n b best most : Nat) : wnF T s r (n + 1) b best most = if bit s b = 0 ∧ most < grT T r b then wnF T s r n (b + 1) b (grT T r b) else wnF T s r n (b + 1) best most := rfl
def wn (T : Tw) (s r : Nat) : Nat := wnF T s r (T 0) 0 4 0
theorem wnF_p (T : Tw) (s r : Nat) : ∀ n b best most, wnF T s r n b best most = best ∨ (wnF T s r n b best most < b + n ∧ bit s (wnF T s r n b best most) = 0) := by
  intro n
  induction n with
  | zero => intro b best most; exact Or.inl rfl
  | succ n ih =>
    intro b best most
    rw [wnF_s]
    split
    · rename_i c
      rcases ih (b + 1) b (grT T r b) with h | h
      · rw [h]
        exact Or.inr ⟨by omega, c.1⟩
      · exact Or.inr ⟨by omega, h.2⟩
    · rcases ih (b + 1) best most with h | h
      · exact Or.inl h
      · exact Or.inr ⟨by omega, h.2⟩
theorem wn_p (T : Tw) (s r : Nat) : wn T s r = 4 ∨ (wn T s r < T 0 ∧ bit s (wn T s r) = 0) := by
  have := wnF_p T s r (T 0) 0 4 0
  rw [Nat.zero_add] at this
  exact this
def naF (T : Tw) (a c : Nat → Nat) : Nat → Nat → Nat
  | 0, _ => 4
  | n + 1, r => if c r = 4 ∧ wn T (a r) r ≠ 4 then r else naF T a c n (r + 1)
theorem naF_s (T : Tw) (a c : Nat → Nat) (n r : Nat) : naF T a c (n + 1) r = if c r = 4 ∧ wn T (a r) r ≠ 4 then r else naF T a c n (r + 1) := rfl
def naB (T : Tw) (a c : Nat → Nat) : Nat := naF T a c (T 1) 0
theorem naF_p (T : Tw) (a c : Nat → Nat) : ∀ n r, naF T a c n r = 4 ∨ (naF T a c n r < r + n ∧ c (naF T a c n r) = 4 ∧ wn T (a (naF T a c n r)) (naF T a c n r) ≠ 4) := by
  intro n
  induction n with
  | zero => intro r; exact Or.inl rfl
  | succ n ih =>
    intro r
    rw [naF_s]
    split
    · rename_i h
      exact Or.inr ⟨by omega, h⟩
    · rcases ih (r + 1) with h | h
      · exact Or.inl h
      · exact Or.inr ⟨by omega, h.2⟩
theorem naB_p (T : Tw) (a c : Nat → Nat) : naB T a c = 4 ∨ (naB T a c < T 1 ∧ c (naB T a c) = 4 ∧ wn T (a (naB T a c)) (naB T a c) ≠ 4) := by
  have := naF_p T a c (T 1) 0
  rw [Nat.zero_add] at this
  exact this
def cNx (T : Tw) (c : Nat → Nat) (r b : Nat) : Nat → Nat :=
  if onB (lieC T c) b = 4 then upT c r b else if grT T (onB (lieC T c) b) b < grT T r b then upT (upT c (onB (lieC T c) b) 4) r b else c
def stF (T : Tw) : Nat → (Nat → Nat) → (Nat → Nat) → (Nat → Nat)
  | 0, _, c => c
  | n + 1, a, c => if naB T a c = 4 then c else stF T n (upT a (naB T a c) (a (naB T a c) + 2 ^ wn T (a (naB T a c)) (naB T a c))) (cNx T c (naB T a c) (wn T (a (naB T a c)) (naB T a c)))
theorem stF_0 (T : Tw) (a c : Nat → Nat) : stF T 0 a c = c := rfl
theorem stF_e {T : Tw} {a c : Nat → Nat} (n : Nat) (h : naB T a c = 4) : stF T n a c = c := by
  cases n with
  | zero => rfl
  | succ n => exact if_pos h
theorem stF_s {T : Tw} {a c : Nat → Nat} (n : Nat) (h : naB T a c ≠ 4) : stF T (n + 1) a c = stF T n (upT a (naB T a c) (a (naB T a c) + 2 ^ wn T (a (naB T a c)) (naB T a c))) (cNx T c (naB T a c) (wn T (a (naB T a c)) (naB T a c))) := if_neg h
/-- how many are not asked -/
def pcn (s : Nat) : Nat := 4 - (bit s 0 + bit s 1 + bit s 2 + bit s 3)
theorem pcn_s {s b : Nat} (hs : s < 16) (hb : b < 4) (h : bit s b = 0) : pcn (s + 2 ^ b) + 1 = pcn s ∧ s + 2 ^ b < 16 := by
  have : ∀ s, s < 16 → ∀ b, b < 4 → s / 2 ^ b % 2 = 0 → (4 - ((s + 2 ^ b) / 2 ^ 0 % 2 + (s + 2 ^ b) / 2 ^ 1 % 2 + (s + 2 ^ b) / 2 ^ 2 % 2 + (s + 2 ^ b) / 2 ^ 3 % 2) + 1 = 4 - (s / 2 ^ 0 % 2 + s / 2 ^ 1 % 2 + s / 2 ^ 2 % 2 + s / 2 ^ 3 % 2)) ∧ s + 2 ^ b < 16 := by decide +kernel
  exact this s hs b hb h
def rem (a : Nat → Nat) : Nat := pcn (a 0) + pcn (a 1) + pcn (a 2) + pcn (a 3)
theorem rem_s {a : Nat → Nat} {r b : Nat} (hr : r < 4) (ha : a r < 16) (hb : b < 4) (h : bit (a r) b = 0) : rem (upT a r (a r + 2 ^ b)) + 1 = rem a := by
  have h1 := (pcn_s ha hb h).1
  unfold rem
  rcases (show r = 0 ∨ r = 1 ∨ r = 2 ∨ r = 3 by omega) with rfl | rfl | rfl | rfl
  · rw [upT_s, upT_n _ _ (by decide), upT_n _ _ (by decide), upT_n _ _ (by decide)]; omega
  · rw [upT_s, upT_n _ _ (by decide), upT_n _ _ (by decide), upT_n _ _ (by decide)]; omega
  · rw [upT_s, upT_n _ _ (by decide), upT_n _ _ (by decide), upT_n _ _ (by decide)]; omega
  · rw [upT_s, upT_n _ _ (by decide), upT_n _ _ (by decide), upT_n _ _ (by decide)]; omega
theorem rem_0 {T : Tw} {a c : Nat → Nat} (w0 : T 0 ≤ 4) (w1 : T 1 ≤ 4) (ha : ∀ r, r < 4 → a r < 16) (h : rem a = 0) : naB T a c = 4 := by
  rcases naB_p T a c with e | ⟨h1, h2, h3⟩
  · exact e
  · rcases wn_p T (a (naB T a c)) (naB T a c) with q | ⟨q1, q2⟩
    · exact absurd q h3
    · have := rem_s (r := naB T a c) (by omega) (ha _ (by omega)) (by omega) q2
      omega
theorem a_ok {a : Nat → Nat} {r b : Nat} (ha : ∀ r, r < 4 → a r < 16) (hr : r < 4) (hb : b < 4) (h : bit (a r) b = 0) : ∀ q, q < 4 → upT a r (a r + 2 ^ b) q < 16 := by
  intro q hq
  by_cases e : q = r
  · subst e
    rw [upT_s]
    exact (pcn_s (ha q hq) hb h).2
  · rw [upT_n _ _ e]
    exact ha q hq
theorem JC_nx {T : Tw} {c : Nat → Nat} (w0 : T 0 ≤ 4) (w1 : T 1 ≤ 4) (hJ : JC T c) {r b : Nat} (hr : r < T 1) (hb : b < T 0) (hc : c r = 4) : JC T (cNx T c r b) := by
  have w1' : lieC T c 1 ≤ 4 := by rw [lieC_o _ _ (by omega)]; exact w1
  have up : ∀ c : Nat → Nat, JC T c → (∀ q, q < T 1 → c q ≠ b) → JC T (upT c r b) := by
    intro c hJ hn
    refine ⟨fun q hq => ?_, fun q hq p hp h h4 => ?_⟩
    · by_cases e : q = r
      · subst e; rw [upT_s]; exact Or.inr hb
      · rw [upT_n _ _ e]; exact hJ.1 q hq
    · by_cases e : q = r
      · by_cases e2 : p = r
        · rw [e, e2]
        · subst e
          rw [upT_s, upT_n _ _ e2] at h
          exact absurd h.symm (hn p hp)
      · rw [upT_n _ _ e] at h h4
        by_cases e2 : p = r
        · subst e2
          rw [upT_s] at h
          exact absurd h (hn q hq)
        · rw [upT_n _ _ e2] at h
          exact hJ.2 q hq p hp h h4
  unfold cNx
  split
  · rename_i h
    refine up c hJ (fun q hq e => ?_)
    have := onB_4 w1' h q (by rw [lieC_o _ _ (by omega)]; exact hq)
    rw [lieC_r _ _ (by omega)] at this
    exact this e
  · rename_i h
    split
    · have hon := (onB_lt (lieC T c) b).resolve_left h
      rw [lieC_o _ _ (by omega)] at hon
      have hat := onB_at w1' h
      rw [lieC_r _ _ (by omega)] at hat
      refine up _ ⟨fun q hq => ?_, fun q hq p hp h h4 => ?_⟩ (fun q hq e => ?_)
      · by_cases e : q = onB (lieC T c) b
        · rw [e, upT_s]; exact Or.inl rfl
        · rw [upT_n _ _ e]; exact hJ.1 q hq
      · by_cases e : q = onB (lieC T c) b
        · rw [e, upT_s] at h4
          exact absurd rfl h4
        · rw [upT_n _ _ e] at h h4
          by_cases e2 : p = onB (lieC T c) b
          · rw [e2, upT_s] at h
            exact absurd h h4
          · rw [upT_n _ _ e2] at h
            exact hJ.2 q hq p hp h h4
      · by_cases e2 : q = onB (lieC T c) b
        · rw [e2, upT_s] at e
          omega
        · rw [upT_n _ _ e2] at e
          exact e2 (hJ.2 q hq _ hon (by rw [hat]; exact e) (by omega))
    · exact hJ
section STA
variable {d : Nat} {T : Tw} {a c : Nat → Nat} {M N : sw_Mem} {Q : Option Value → sw_Mem → Prop}
def cS (T : Tw) (a c : Nat → Nat) (M : sw_Mem) : Prop := IsV M 34 T ∧ M 91 5 = nI 34 ∧ (∀ r, r < 4 → M 104 r = nI (a r)) ∧ ∀ r, r < 4 → M 106 r = bn (c r)
theorem kd_w : sw_kd 104 = 10 ∧ sw_kd 106 = 10 ∧ sw_ln 104 = 4 ∧ sw_ln 106 = 4 ∧ sw_kd 105 = 10 ∧ sw_ln 105 = 4 := by decide +kernel
theorem k82L (hS : cS T a c M) (hW : WF T) {r : Nat} (hr : r < T 1) (ha : a r < 16) : ∀ n b best most (x5 : Value), b + n = T 0 → most ≤ 36 → best ≤ 4 → sw_WP (d + 2) 82 8 [.ref 91, .int (nI r), .int (bn best), .int (nI most), .int (nI b), x5] [] M Q = Q (some (.int (bn (wnF T (a r) r n b best most)))) M := by
  have w0 := hW.1
  have w1 := hW.2.1
  have hS' := hS
  obtain ⟨hV, h5, hA, hC⟩ := hS'
  have g3 := hV.2.1.2.2.2.1
  have hAr := hA r (by omega)
  intro n
  induction n with
  | zero =>
    intro b best most x5 hb hm hbe
    obtain rfl : b = T 0 := by omega
    refine (s82_8 ..).trans ?_
    simp (disch := omega) only [s82_0, s82_2, s82_3, s82_4, s82_5, s82_6, s82_10, s82_11, s82_14, s82_17, s82_20, s82_21, s82_24, s82_25, s82_27, s82_30, s82_32, s82_33, s82_36, s82_37, s82_38, s82_40, s82_41, s82_42, s82_43, s82_46, s82_48, s82_49, s82_52, s82_54, s82_55, s82_57, s82_58, s82_61, s82_64, s82_65, z_lt_t, z_lt_f, z_le_t, z_le_f, z_lt0, z_ge0, z_cl, z_in, z_add, z_eq_f, z_ne0, z_00, z_10, z_01, z_11, z_neg1, z_nI_NONE, z_div, z_rem, z_rem2, sw_pu_s, sw_pu_n, true_and, and_true, true_or, or_true, if_true, if_false, not_true_eq_false, not_false_eq_true, h5, kd34, g3]
    rfl
  | succ n ih =>
    intro b best most x5 hb hm hbe
    have h69 := fun d Q => k69 (d := d) (Q := Q) hV hW hr (show b < T 0 by omega)
    have hg := grT_le hW hr (show b < T 0 by omega)
    have hbt := bit_sh ha (show b < 4 by omega)
    rw [wnF_s]
    refine (s82_8 ..).trans ?_
    by_cases c : bit (a r) b = 0 ∧ most < grT T r b
    · rw [if_pos c, ← ih (b + 1) b (grT T r b) (.int (nI (grT T r b))) (by omega) hg (by omega), bn_n (show b ≠ 4 by omega)]
      simp (disch := omega) only [s82_0, s82_2, s82_3, s82_4, s82_5, s82_6, s82_10, s82_11, s82_14, s82_17, s82_20, s82_21, s82_24, s82_25, s82_27, s82_30, s82_32, s82_33, s82_36, s82_37, s82_38, s82_40, s82_41, s82_42, s82_43, s82_46, s82_48, s82_49, s82_52, s82_54, s82_55, s82_57, s82_58, s82_61, s82_64, s82_65, z_lt_t, z_lt_f, z_le_t, z_le_f, z_lt0, z_ge0, z_cl, z_in, z_add, z_eq_f, z_ne0, z_00, z_10, z_01, z_11, z_neg1, z_nI_NONE, z_div, z_rem, z_rem2, sw_pu_s, sw_pu_n, true_and, and_true, true_or, or_true, if_true, if_false, not_true_eq_false, not_false_eq_true, h5, kd34, g3, h69, hAr, hbt, c.1]
    · rw [if_neg c, ← ih (b + 1) best most (.int (nI (grT T r b))) (by omega) hm hbe]
      rcases bit_01 (a r) b with e | e
      · have c2 : grT T r b ≤ most := by omega
        simp (disch := omega) only [s82_0, s82_2, s82_3, s82_4, s82_5, s82_6, s82_10, s82_11, s82_14, s82_17, s82_20, s82_21, s82_24, s82_25, s82_27, s82_30, s82_32, s82_33, s82_36, s82_37, s82_38, s82_40, s82_41, s82_42, s82_43, s82_46, s82_48, s82_49, s82_52, s82_54, s82_55, s82_57, s82_58, s82_61, s82_64, s82_65, z_lt_t, z_lt_f, z_le_t, z_le_f, z_lt0, z_ge0, z_cl, z_in, z_add, z_eq_f, z_ne0, z_00, z_10, z_01, z_11, z_neg1, z_nI_NONE, z_div, z_rem, z_rem2, sw_pu_s, sw_pu_n, true_and, and_true, true_or, or_true, if_true, if_false, not_true_eq_false, not_false_eq_true, h5, kd34, g3, h69, hAr, hbt, e]
      · simp (disch := omega) only [s82_0, s82_2, s82_3, s82_4, s82_5, s82_6, s82_10, s82_11, s82_14, s82_17, s82_20, s82_21, s82_24, s82_25, s82_27, s82_30, s82_32, s82_33, s82_36, s82_37, s82_38, s82_40, s82_41, s82_42, s82_43, s82_46, s82_48, s82_49, s82_52, s82_54, s82_55, s82_57, s82_58, s82_61, s82_64, s82_65, z_lt_t, z_lt_f, z_le_t, z_le_f, z_lt0, z_ge0, z_cl, z_in, z_add, z_eq_f, z_ne0, z_00, z_10, z_01, z_11, z_neg1, z_nI_NONE, z_div, z_rem, z_rem2, sw_pu_s, sw_pu_n, true_and, and_true, true_or, or_true, if_true, if_false, not_true_eq_false, not_false_eq_true, h5, kd34, g3, h69, hAr, hbt, e]
theorem k82 (hS : cS T a c M) (hW : WF T) {r : Nat} (hr : r < T 1) (ha : a r < 16) : sw_Cal (d + 3) 82 [.ref 91, .int (nI r)] M Q = Q (some (.int (bn (wn T (a r) r)))) M := by
  have := k82L (d := d) (Q := Q) hS hW hr ha (T 0) 0 4 0 sw_U (by omega) (by omega) (by omega)
  rw [bn_4] at this
  rw [c82]
  simp (disch := omega) only [s82_0, s82_2, s82_3, s82_4, s82_5, s82_6]
  exact this
theorem k81L (hS : cS T a c M) (hW : WF T) (hJ : JC T c) (ha : ∀ r, r < 4 → a r < 16) : ∀ n r, r + n = T 1 → sw_WP (d + 3) 81 2 [.ref 91, .int (nI r)] [] M Q = Q (some (.int (bn (naF T a c n r)))) M := by
  have w0 := hW.1
  have w1 := hW.2.1
  have hS' := hS
  obtain ⟨hV, h5, hA, hC⟩ := hS'
  have g4 := hV.2.1.2.2.2.2
  intro n
  induction n with
  | zero =>
    intro r hr
    obtain rfl : r = T 1 := by omega
    refine (s81_2 ..).trans ?_
    simp (disch := omega) only [s81_0, s81_1, s81_3, s81_4, s81_7, s81_10, s81_13, s81_14, s81_17, s81_18, s81_19, s81_21, s81_24, s81_25, s81_26, s81_29, s81_31, s81_34, s81_35, s81_36, s81_39, s81_42, s81_44, z_lt_t, z_lt_f, z_le_t, z_le_f, z_lt0, z_ge0, z_cl, z_in, z_add, z_eq_f, z_ne0, z_00, z_10, z_01, z_11, z_neg1, z_nI_NONE, z_div, z_rem, z_rem2, sw_pu_s, sw_pu_n, true_and, and_true, true_or, or_true, if_true, if_false, not_true_eq_false, not_false_eq_true, h5, kd34, g4]
    rfl
  | succ n ih =>
    intro r hr
    have h82 := fun d Q => k82 (d := d) (Q := Q) hS hW (show r < T 1 by omega) (ha r (by omega))
    have hCr := hC r (by omega)
    have hJr := hJ.1 r (by omega)
    have hwp := wn_p T (a r) r
    have := ih (r + 1) (by omega)
    rw [naF_s]
    refine (s81_2 ..).trans ?_
    by_cases e : c r = 4
    · by_cases e2 : wn T (a r) r = 4
      · rw [if_neg (fun q => q.2 e2), ← this]
        simp (disch := omega) only [s81_0, s81_1, s81_3, s81_4, s81_7, s81_10, s81_13, s81_14, s81_17, s81_18, s81_19, s81_21, s81_24, s81_25, s81_26, s81_29, s81_31, s81_34, s81_35, s81_36, s81_39, s81_42, s81_44, z_lt_t, z_lt_f, z_le_t, z_le_f, z_lt0, z_ge0, z_cl, z_in, z_add, z_eq_f, z_ne0, z_00, z_10, z_01, z_11, z_neg1, z_nI_NONE, z_div, z_rem, z_rem2, sw_pu_s, sw_pu_n, true_and, and_true, true_or, or_true, if_true, if_false, not_true_eq_false, not_false_eq_true, h5, kd34, g4, hCr, z_bn, e, h82, e2]
      · rw [if_pos ⟨e, e2⟩]
        rw [bn_n (show r ≠ 4 by omega)]
        simp (disch := omega) only [s81_0, s81_1, s81_3, s81_4, s81_7, s81_10, s81_13, s81_14, s81_17, s81_18, s81_19, s81_21, s81_24, s81_25, s81_26, s81_29, s81_31, s81_34, s81_35, s81_36, s81_39, s81_42, s81_44, z_lt_t, z_lt_f, z_le_t, z_le_f, z_lt0, z_ge0, z_cl, z_in, z_add, z_eq_f, z_ne0, z_00, z_10, z_01, z_11, z_neg1, z_nI_NONE, z_div, z_rem, z_rem2, sw_pu_s, sw_pu_n, true_and, and_true, true_or, or_true, if_true, if_false, not_true_eq_false, not_false_eq_true, h5, kd34, g4, hCr, z_bn, e, h82, e2]
    · rw [if_neg (fun q => e q.1), ← this]
      simp (disch := omega) only [s81_0, s81_1, s81_3, s81_4, s81_7, s81_10, s81_13, s81_14, s81_17, s81_18, s81_19, s81_21, s81_24, s81_25, s81_26, s81_29, s81_31, s81_34, s81_35, s81_36, s81_39, s81_42, s81_44, z_lt_t, z_lt_f, z_le_t, z_le_f, z_lt0, z_ge0, z_cl, z_in, z_add, z_eq_f, z_ne0, z_00, z_10, z_01, z_11, z_neg1, z_nI_NONE, z_div, z_rem, z_rem2, sw_pu_s, sw_pu_n, true_and, and_true, true_or, or_true, if_true, if_false, not_true_eq_false, not_false_eq_true, h5, kd34, g4, hCr, z_bn, e]
theorem k81 (hS : cS T a c M) (hW : WF T) (hJ : JC T c) (ha : ∀ r, r < 4 → a r < 16) : sw_Cal (d + 4) 81 [.ref 91] M Q = Q (some (.int (bn (naB T a c)))) M := by
  have := k81L (d := d) (Q := Q) hS hW hJ ha (T 1) 0 (by omega)
  rw [c81]
  simp (disch := omega) only [s81_0, s81_1]
  exact this
theorem k84L (hS : cS T a c M) (hW : WF T) (hJ : JC T c) {b : Nat} (hb : b < 4) : ∀ n r, r + n = T 1 → sw_WP d 84 2 [.ref 91, .int (nI b), .int (nI r)] [] M Q = Q (some (.int (bn (onF (lieC T c) b n r)))) M := by
  have w0 := hW.1
  have w1 := hW.2.1
  have hS' := hS
  obtain ⟨hV, h5, hA, hC⟩ := hS'
  have g4 := hV.2.1.2.2.2.2
  intro n
  induction n with
  | zero =>
    intro r hr
    obtain rfl : r = T 1 := by omega
    refine (s84_2 ..).trans ?_
    simp (disch := omega) only [s84_0, s84_1, s84_3, s84_4, s84_7, s84_10, s84_13, s84_14, s84_17, s84_18, s84_19, s84_20, s84_23, s84_24, s84_25, s84_28, s84_31, s84_33, z_lt_t, z_lt_f, z_le_t, z_le_f, z_lt0, z_ge0, z_cl, z_in, z_add, z_eq_f, z_ne0, z_00, z_10, z_01, z_11, z_neg1, z_nI_NONE, z_div, z_rem, z_rem2, sw_pu_s, sw_pu_n, true_and, and_true, true_or, or_true, if_true, if_false, not_true_eq_false, not_false_eq_true, h5, kd34, g4]
    rfl
  | succ n ih =>
    intro r hr
    have hCr := hC r (by omega)
    have hJr := hJ.1 r (by omega)
    have := ih (r + 1) (by omega)
    rw [onF_s, lieC_r _ _ (by omega)]
    refine (s84_2 ..).trans ?_
    by_cases e : c r = b
    · rw [if_pos e, bn_n (show r ≠ 4 by omega)]
      simp (disch := omega) only [s84_0, s84_1, s84_3, s84_4, s84_7, s84_10, s84_13, s84_14, s84_17, s84_18, s84_19, s84_20, s84_23, s84_24, s84_25, s84_28, s84_31, s84_33, z_lt_t, z_lt_f, z_le_t, z_le_f, z_lt0, z_ge0, z_cl, z_in, z_add, z_eq_f, z_ne0, z_00, z_10, z_01, z_11, z_neg1, z_nI_NONE, z_div, z_rem, z_rem2, sw_pu_s, sw_pu_n, true_and, and_true, true_or, or_true, if_true, if_false, not_true_eq_false, not_false_eq_true, h5, kd34, g4, hCr, z_bn_b, e]
    · rw [if_neg e, ← this]
      simp (disch := omega) only [s84_0, s84_1, s84_3, s84_4, s84_7, s84_10, s84_13, s84_14, s84_17, s84_18, s84_19, s84_20, s84_23, s84_24, s84_25, s84_28, s84_31, s84_33, z_lt_t, z_lt_f, z_le_t, z_le_f, z_lt0, z_ge0, z_cl, z_in, z_add, z_eq_f, z_ne0, z_00, z_10, z_01, z_11, z_neg1, z_nI_NONE, z_div, z_rem, z_rem2, sw_pu_s, sw_pu_n, true_and, and_true, true_or, or_true, if_true, if_false, not_true_eq_false, not_false_eq_true, h5, kd34, g4, hCr, z_bn_b, e]
theorem k84 (hS : cS T a c M) (hW : WF T) (hJ : JC T c) {b : Nat} (hb : b < 4) : sw_Cal (d + 1) 84 [.ref 91, .int (nI b)] M Q = Q (some (.int (bn (onB (lieC T c) b)))) M := by
  have := k84L (d := d) (Q := Q) hS hW hJ hb (T 1) 0 (by omega)
  rw [c84]
  simp (disch := omega) only [s84_0, s84_1]
  rw [show onB (lieC T c) b = onF (lieC T c) b (T 1) 0 by unfold onB; rw [lieC_o _ _ (by omega)]]
  exact this
end STA
