/-! days one behind another; a pair alone -/
theorem psT_4 (T : Tw) : psT T 4 = T 4 + 1 := upT_s _ _ _
theorem psT_o (T : Tw) {i : Nat} (h0 : i ≠ 4) (h1 : i < 17 ∨ 21 ≤ i) (h2 : i < 29 ∨ 33 ≤ i) (h3 : i < 9 ∨ 13 ≤ i) : psT T i = T i := by unfold psT; rw [upT_n _ _ h0, pf_o _ _ h1 h2 h3]
theorem psT_fl (T : Tw) {b : Nat} (hb : b < 4) : psT T (17 + b) = T (17 + b) + (if wh T b (T 1) < 4 then grT T (wh T b (T 1)) b else 0) := by unfold psT; rw [upT_n _ _ (by omega), pf_fl _ _ hb]
theorem psT_fr (T : Tw) {r : Nat} (hr : r < 4) : psT T (29 + r) = if r < T 1 ∧ T (37 + r) ≠ 4 then T (29 + r) - wT T else T (29 + r) := by unfold psT; rw [upT_n _ _ (by omega), pf_fr _ _ hr]
theorem psT_fb (T : Tw) {b : Nat} (hb : b < 4) : psT T (9 + b) = if wh T b (T 1) < 4 then T (9 + b) - wT T - sT T (wh T b (T 1)) else T (9 + b) := by unfold psT; rw [upT_n _ _ (by omega), pf_fb _ _ hb]
theorem WF_ps {T : Tw} (hW : WF T) (h4 : T 4 + 1 ≤ 2000) : WF (psT T) := WF_day (WF_pf hW _) h4
theorem FB_ps {T : Tw} (hW : WF T) {F : Nat} (h : FB T F) : FB (psT T) (F + 36) := by
  intro b hb
  rw [psT_o _ (by omega) (by omega) (by omega) (by omega)] at hb
  have w0 := hW.1
  have := FB_pf hW h (n := T 1) (by omega) b (by rw [pf_o _ _ (by omega) (by omega) (by omega)]; exact hb)
  unfold psT
  rw [upT_n _ _ (by omega)]
  exact this
def itT : Tw → Nat → Tw
  | T, 0 => T
  | T, k + 1 => itT (psT T) k
def gdT : Tw → Nat → Nat
  | _, 0 => 0
  | T, k + 1 => gsT T + gdT (psT T) k
theorem itT_s (T : Tw) (k : Nat) : itT T (k + 1) = itT (psT T) k := rfl
theorem gdT_s (T : Tw) (k : Nat) : gdT T (k + 1) = gsT T + gdT (psT T) k := rfl
theorem gdT_le : ∀ (k : Nat) (T : Tw), WF T → T 4 + k ≤ 2000 → gdT T k ≤ 144 * k := by
  intro k
  induction k with
  | zero => intro T _ _; exact Nat.le_refl _
  | succ k ih =>
    intro T hW h
    have := ih (psT T) (WF_ps hW (by omega)) (by rw [psT_4]; omega)
    have := gsT_le hW
    rw [gdT_s]
    omega
theorem itT_WF : ∀ (k : Nat) (T : Tw), WF T → T 4 + k ≤ 2000 → WF (itT T k) := by
  intro k
  induction k with
  | zero => intro T hW _; exact hW
  | succ k ih => intro T hW h; exact ih (psT T) (WF_ps hW (by omega)) (by rw [psT_4]; omega)
theorem itT_FB : ∀ (k : Nat) (T : Tw) (F : Nat), WF T → T 4 + k ≤ 2000 → FB T F → FB (itT T k) (F + 36 * k) := by
  intro k
  induction k with
  | zero => intro T F _ _ h; exact h
  | succ k ih =>
    intro T F hW h hF
    have := ih (psT T) (F + 36) (WF_ps hW (by omega)) (by rw [psT_4]; omega) (FB_ps hW hF)
    rw [show F + 36 + 36 * k = F + 36 * (k + 1) by omega] at this
    exact this
theorem itT_4 : ∀ (k : Nat) (T : Tw), itT T k 4 = T 4 + k := by
  intro k
  induction k with
  | zero => intro T; rfl
  | succ k ih => intro T; rw [itT_s, ih, psT_4]; omega
theorem itT_o {i : Nat} (h0 : i ≠ 4) (h1 : i < 17 ∨ 21 ≤ i) (h2 : i < 29 ∨ 33 ≤ i) (h3 : i < 9 ∨ 13 ≤ i) : ∀ (k : Nat) (T : Tw), itT T k i = T i := by
  intro k
  induction k with
  | zero => intro T; rfl
  | succ k ih => intro T; rw [itT_s, ih, psT_o _ h0 h1 h2 h3]
section DAY
variable {d v B : Nat} {M : sw_Mem} {T : Tw} {Q : Option Value → sw_Mem → Prop}
theorem k71L {N : Nat} (hN : N ≤ 2000) : ∀ n i acc F (M : sw_Mem) (T : Tw), i + n = N → acc ≤ 144 * i → IsV M v T → WF T → FB T F → F + 36 * n ≤ 1000000 → T 4 + n ≤ 2000 →
    ∃ M', IsV M' v (itT T n) ∧ Off M M' v ∧ ∀ Q, sw_WP (d + 4) 71 4 [.ref v, .int (nI N), .int (nI acc), .int (nI i)] [] M Q = Q (some (.int (nI (acc + gdT T n)))) M' := by
  intro n
  induction n with
  | zero =>
    intro i acc F M T h hacc hV hW hF hFF h4
    obtain rfl : i = N := by omega
    have hv := hV.1
    refine ⟨M, hV, Off.rf, fun Q => ?_⟩
    refine (s71_4 ..).trans ?_
    simp (disch := omega) only [s71_0, s71_1, s71_2, s71_3, s71_5, s71_6, s71_9, s71_10, s71_11, s71_14, s71_15, s71_16, s71_19, s71_22, s71_23, z_lt_t, z_lt_f, z_le_t, z_le_f, z_lt0, z_ge0, z_cl, z_in, z_add, z_eq_f, z_ne0, z_00, z_10, z_01, z_11, z_neg1, z_nI_NONE, z_div, z_rem, z_rem2, sw_pu_s, sw_pu_n, true_and, and_true, true_or, or_true, if_true, if_false, not_true_eq_false, not_false_eq_true, gdT, Nat.add_zero]
  | succ n ih =>
    intro i acc F M T h hacc hV hW hF hFF h4
    have hv := hV.1
    obtain ⟨M1, a1, a2, a3⟩ := k72 (d := d) hV hW hF (by omega)
    have hg := gsT_le hW
    obtain ⟨M2, b1, b2, b3⟩ := ih (i + 1) (acc + gsT T) (F + 36) M1 (psT T) (by omega) (by omega) a1 (WF_ps hW (by omega)) (FB_ps hW hF) (by omega) (by rw [psT_4]; omega)
    refine ⟨M2, b1, a2.tr b2, fun Q => ?_⟩
    rw [gdT_s, ← Nat.add_assoc, ← b3 Q]
    refine (s71_4 ..).trans ?_
    simp (disch := omega) only [s71_0, s71_1, s71_2, s71_3, s71_5, s71_6, s71_9, s71_10, s71_11, s71_14, s71_15, s71_16, s71_19, s71_22, s71_23, z_lt_t, z_lt_f, z_le_t, z_le_f, z_lt0, z_ge0, z_cl, z_in, z_add, z_eq_f, z_ne0, z_00, z_10, z_01, z_11, z_neg1, z_nI_NONE, z_div, z_rem, z_rem2, sw_pu_s, sw_pu_n, true_and, and_true, true_or, or_true, if_true, if_false, not_true_eq_false, not_false_eq_true, a3]
theorem k71 (hV : IsV M v T) (hW : WF T) {F n : Nat} (hF : FB T F) (hFF : F + 36 * n ≤ 1000000) (h4 : T 4 + n ≤ 2000) : ∃ M', IsV M' v (itT T n) ∧ Off M M' v ∧ ∀ Q, sw_Cal (d + 5) 71 [.ref v, .int (nI n)] M Q = Q (some (.int (nI (gdT T n)))) M' := by
  have hv := hV.1
  obtain ⟨M', a1, a2, a3⟩ := k71L (d := d) (N := n) (by omega) n 0 0 F M T (by omega) (by omega) hV hW hF hFF h4
  refine ⟨M', a1, a2, fun Q => ?_⟩
  have := a3 Q
  rw [Nat.zero_add] at this
  rw [c71]
  simp (disch := omega) only [s71_0, s71_1, s71_2, s71_3, s71_5, s71_6, s71_9, s71_10, s71_11, s71_14, s71_15, s71_16, s71_19, s71_22, s71_23, z_lt_t, z_lt_f, z_le_t, z_le_f, z_lt0, z_ge0, z_cl, z_in, z_add, z_eq_f, z_ne0, z_00, z_10, z_01, z_11, z_neg1, z_nI_NONE, z_div, z_rem, z_rem2, sw_pu_s, sw_pu_n, true_and, and_true, true_or, or_true, if_true, if_false, not_true_eq_false, not_false_eq_true, this]
theorem k166L {N : Nat} (hN : N ≤ 2000) (hB : B ≤ 1107) : ∀ n i acc F (M : sw_Mem) (T : Tw), i + n = N → acc ≤ 144 * i → IsM M B T → WF T → 0 < T 2 → FB T F → F + 36 * n ≤ 1000000 → T 4 + n ≤ 2000 →
    ∃ M', IsM M' B (itT T n) ∧ OfM M M' B ∧ ∀ Q, sw_WP (d + 3) 166 5 [.ref 0, .int (nI B), .int (nI N), .int (nI acc), .int (nI i)] [] M Q = Q (some (.int (nI (acc + gdT T n)))) M' := by
  intro n
  induction n with
  | zero =>
    intro i acc F M T h hacc hV hW hL hF hFF h4
    obtain rfl : i = N := by omega
    refine ⟨M, hV, OfM.rf, fun Q => ?_⟩
    refine (s166_5 ..).trans ?_
    simp (disch := omega) only [s166_0, s166_1, s166_2, s166_3, s166_7, s166_8, s166_11, s166_12, s166_13, s166_14, s166_17, s166_18, s166_19, s166_22, s166_25, s166_26, z_lt_t, z_lt_f, z_le_t, z_le_f, z_lt0, z_ge0, z_cl, z_in, z_add, z_eq_f, z_ne0, z_00, z_10, z_01, z_11, z_neg1, z_nI_NONE, z_div, z_rem, z_rem2, sw_pu_s, sw_pu_n, true_and, and_true, true_or, or_true, if_true, if_false, not_true_eq_false, not_false_eq_true, gdT, Nat.add_zero]
  | succ n ih =>
    intro i acc F M T h hacc hV hW hL hF hFF h4
    obtain ⟨M1, a1, a2, a3⟩ := k165 (d := d) hV hW hL hF (by omega) hB
    have hg := gsT_le hW
    obtain ⟨M2, b1, b2, b3⟩ := ih (i + 1) (acc + gsT T) (F + 36) M1 (psT T) (by omega) (by omega) a1 (WF_ps hW (by omega)) (by rw [psT_o _ (by omega) (by omega) (by omega) (by omega)]; exact hL) (FB_ps hW hF) (by omega) (by rw [psT_4]; omega)
    refine ⟨M2, b1, a2.tr b2, fun Q => ?_⟩
    rw [gdT_s, ← Nat.add_assoc, ← b3 Q]
    refine (s166_5 ..).trans ?_
    simp (disch := omega) only [s166_0, s166_1, s166_2, s166_3, s166_7, s166_8, s166_11, s166_12, s166_13, s166_14, s166_17, s166_18, s166_19, s166_22, s166_25, s166_26, z_lt_t, z_lt_f, z_le_t, z_le_f, z_lt0, z_ge0, z_cl, z_in, z_add, z_eq_f, z_ne0, z_00, z_10, z_01, z_11, z_neg1, z_nI_NONE, z_div, z_rem, z_rem2, sw_pu_s, sw_pu_n, true_and, and_true, true_or, or_true, if_true, if_false, not_true_eq_false, not_false_eq_true, a3]
theorem k166 (hM : IsM M B T) (hW : WF T) (hL : 0 < T 2) {F n : Nat} (hF : FB T F) (hFF : F + 36 * n ≤ 1000000) (h4 : T 4 + n ≤ 2000) (hB : B ≤ 1107) : ∃ M', IsM M' B (itT T n) ∧ OfM M M' B ∧ ∀ Q, sw_Cal (d + 4) 166 [.ref 0, .int (nI B), .int (nI n)] M Q = Q (some (.int (nI (gdT T n)))) M' := by
  obtain ⟨M', a1, a2, a3⟩ := k166L (d := d) (N := n) (by omega) hB n 0 0 F M T (by omega) (by omega) hM hW hL hF hFF h4
  refine ⟨M', a1, a2, fun Q => ?_⟩
  have := a3 Q
  rw [Nat.zero_add] at this
  rw [c166]
  simp (disch := omega) only [s166_0, s166_1, s166_2, s166_3, s166_7, s166_8, s166_11, s166_12, s166_13, s166_14, s166_17, s166_18, s166_19, s166_22, s166_25, s166_26, z_lt_t, z_lt_f, z_le_t, z_le_f, z_lt0, z_ge0, z_cl, z_in, z_add, z_eq_f, z_ne0, z_00, z_10, z_01, z_11, z_neg1, z_nI_NONE, z_div, z_rem, z_rem2, sw_pu_s, sw_pu_n, true_and, and_true, true_or, or_true, if_true, if_false, not_true_eq_false, not_false_eq_true, this]
end DAY
/-! pairs -/
def sm (f : Nat → Nat) : Nat → Nat
  | 0 => 0
  | n + 1 => sm f n + f n
theorem sm_cong {f g : Nat → Nat} {n : Nat} (h : ∀ r, r < n → f r = g r) : sm f n = sm g n := by
  induction n with
  | zero => rfl
  | succ n ih =>
    show sm f n + f n = sm g n + g n
    rw [ih (fun r hr => h r (by omega)), h n (Nat.lt_succ_self n)]
theorem sm_add (f g : Nat → Nat) (n : Nat) : sm (fun r => f r + g r) n = sm f n + sm g n := by
  induction n with
  | zero => rfl
  | succ n ih =>
    show sm _ n + (f n + g n) = sm f n + f n + (sm g n + g n)
    rw [ih]
    omega
theorem sm_0 (n : Nat) : sm (fun _ => 0) n = 0 := by
  induction n with
  | zero => rfl
  | succ n ih => exact ih
theorem gsF_sm (T : Tw) : ∀ n r, sm (gnT T) r + gsF T n r = sm (gnT T) (r + n) := by
  intro n
  induction n with
  | zero => intro r; rfl
  | succ n ih =>
    intro r
    rw [gsF_s, show r + (n + 1) = r + 1 + n by omega, ← ih (r + 1), ← Nat.add_assoc]
    rfl
theorem gsT_sm (T : Tw) : gsT T = sm (gnT T) (T 1) := by
  have := gsF_sm T (T 1) 0
  rw [Nat.zero_add] at this
  unfold gsT
  rw [← this]
  show _ = 0 + _
  omega
/-- what runner r grinds in d days -/
def pg (r : Nat) : Tw → Nat → Nat
  | _, 0 => 0
  | T, k + 1 => gnT T r + pg r (psT T) k
theorem pg_s (r : Nat) (T : Tw) (k : Nat) : pg r T (k + 1) = gnT T r + pg r (psT T) k := rfl
theorem gdT_pg : ∀ (k : Nat) (T : Tw), gdT T k = sm (fun r => pg r T k) (T 1) := by
  intro k
  induction k with
  | zero => intro T; exact (sm_0 _).symm
  | succ k ih =>
    intro T
    rw [gdT_s, ih, gsT_sm, psT_o _ (by omega) (by omega) (by omega) (by omega)]
    exact (sm_add _ _ _).symm
/-- two towns are alike as far as the pair r on b goes -/
def PA (S S' : Tw) (r b : Nat) : Prop := S 2 = S' 2 ∧ S 3 = S' 3 ∧ S 4 = S' 4 ∧ S (21 + r) = S' (21 + r) ∧ S (25 + r) = S' (25 + r) ∧ S (29 + r) = S' (29 + r) ∧ S (33 + r) = S' (33 + r) ∧ S (5 + b) = S' (5 + b) ∧ S (9 + b) = S' (9 + b) ∧ S (13 + b) = S' (13 + b)
/-- who lies on a bed where r lies -/
theorem wh_r {T : Tw} (hW : WF T) {r b : Nat} (hr : r < T 1) (hb : T (37 + r) = b) (h4 : b ≠ 4) : ∀ n, r < n → n ≤ T 1 → wh T b n = r := by
  intro n
  induction n with
  | zero => intro h; omega
  | succ n ih =>
    intro h1 h2
    rw [wh_s]
    by_cases e : T (37 + n) = b
    · rw [if_pos e]
      exact hW.2.2.2.2.2.2.2 n (by omega) r hr (e.trans hb.symm) (by omega)
    · rw [if_neg e]
      exact ih (by rcases Nat.lt_succ_iff_lt_or_eq.mp h1 with q | q; exact q; subst q; exact absurd hb e) (by omega)
theorem PA_gr {S S' : Tw} {r b : Nat} (h : PA S S' r b) : grT S r b = grT S' r b := by
  obtain ⟨h2, h3, h4, k, r1, r2, r3, b1, b2, b3⟩ := h
  exact gr_cong h3 h4 k r1 r2 r3 b1 b2 b3
theorem PA_gn {S S' : Tw} {r b : Nat} (h : PA S S' r b) (hb : S (37 + r) = b) (hb' : S' (37 + r) = b) : gnT S r = gnT S' r := by
  unfold gnT
  rw [hb, hb', PA_gr h]
theorem PA_ps {S S' : Tw} {r b : Nat} (h : PA S S' r b) (hW : WF S) (hW' : WF S') (hr : r < S 1) (hr' : r < S' 1) (hb : S (37 + r) = b) (hb' : S' (37 + r) = b) (h4b : b < 4) : PA (psT S) (psT S') r b := by
  obtain ⟨h2, h3, h4, k, r1, r2, r3, b1, b2, b3⟩ := h
  have w1 := hW.2.1
  have e1 := wh_r hW hr hb (by omega) (S 1) hr (Nat.le_refl _)
  have e2 := wh_r hW' hr' hb' (by omega) (S' 1) hr' (Nat.le_refl _)
  have ew : wT S = wT S' := by unfold wT; rw [h2, h4]
  have es : sT S r = sT S' r := by unfold sT; rw [k]
  refine ⟨?_, ?_, ?_, ?_, ?_, ?_, ?_, ?_, ?_, ?_⟩
  · rw [psT_o _ (by omega) (by omega) (by omega) (by omega), psT_o _ (by omega) (by omega) (by omega) (by omega), h2]
  · rw [psT_o _ (by omega) (by omega) (by omega) (by omega), psT_o _ (by omega) (by omega) (by omega) (by omega), h3]
  · rw [psT_4, psT_4, h4]
  · rw [psT_o _ (by omega) (by omega) (by omega) (by omega), psT_o _ (by omega) (by omega) (by omega) (by omega), k]
  · rw [psT_o _ (by omega) (by omega) (by omega) (by omega), psT_o _ (by omega) (by omega) (by omega) (by omega), r1]
  · rw [psT_fr _ (by omega), psT_fr _ (by omega), if_pos (by omega), if_pos (by omega), r2, ew]
  · rw [psT_o _ (by omega) (by omega) (by omega) (by omega), psT_o _ (by omega) (by omega) (by omega) (by omega), r3]
  · rw [psT_o _ (by omega) (by omega) (by omega) (by omega), psT_o _ (by omega) (by omega) (by omega) (by omega), b1]
  · rw [psT_fb _ (by omega), psT_fb _ (by omega), e1, e2, if_pos (by omega), if_pos (by omega), b2, ew, es]
  · rw [psT_o _ (by omega) (by omega) (by omega) (by omega), psT_o _ (by omega) (by omega) (by omega) (by omega), b3]
theorem PA_pg {r b : Nat} (h4b : b < 4) : ∀ (k : Nat) (S S' : Tw), PA S S' r b → WF S → WF S' → r < S 1 → r < S' 1 → S (37 + r) = b → S' (37 + r) = b → S 4 + k ≤ 2000 → pg r S k = pg r S' k := by
  intro k
  induction k with
  | zero => intro S S' _ _ _ _ _ _ _ _; rfl
  | succ k ih =>
    intro S S' h hW hW' hr hr' hb hb' hk
    have w1 := hW.2.1
    have h4 := h.2.2.1
    rw [pg_s, pg_s, PA_gn h hb hb', ih (psT S) (psT S') (PA_ps h hW hW' hr hr' hb hb' h4b) (WF_ps hW (by omega)) (WF_ps hW' (by omega)) (by rw [psT_o _ (by omega) (by omega) (by omega) (by omega)]; exact hr) (by rw [psT_o _ (by omega) (by omega) (by omega) (by omega)]; exact hr') (by rw [psT_o _ (by omega) (by omega) (by omega) (by omega)]; exact hb) (by rw [psT_o _ (by omega) (by omega) (by omega) (by omega)]; exact hb') (by rw [psT_4]; omega)]
/-- all lie nowhere -/
theorem pg_no {r : Nat} : ∀ (k : Nat) (S : Tw), S (37 + r) = 4 → r < 4 → pg r S k = 0 := by
  intro k
  induction k with
  | zero => intro S _ _; rfl
  | succ k ih =>
    intro S h hr
    rw [pg_s, ih (psT S) (by rw [psT_o _ (by omega) (by omega) (by omega) (by omega)]; exact h) hr]
    unfold gnT
    rw [if_pos h]
/-- r alone, on b -/
def al (T : Tw) (r b : Nat) : Tw := fun i => if 37 ≤ i ∧ i < 41 then (if i = 37 + r then b else 4) else T i
theorem al_r (T : Tw) {r b : Nat} (hr : r < 4) : al T r b (37 + r) = b := by unfold al; rw [if_pos (by omega), if_pos rfl]
theorem al_q (T : Tw) {r b q : Nat} (hq : q < 4) (h : q ≠ r) : al T r b (37 + q) = 4 := by unfold al; rw [if_pos (by omega), if_neg (by omega)]
theorem al_o (T : Tw) {r b i : Nat} (h : i < 37 ∨ 41 ≤ i) : al T r b i = T i := by unfold al; rw [if_neg (by omega)]
theorem WF_al {T : Tw} (hW : WF T) {r b : Nat} (hb : b = 4 ∨ b < T 0) : WF (al T r b) := by
  obtain ⟨w0, w1, w2, w3, w4, wr, wb, wi⟩ := hW
  have e : ∀ i, i < 37 → al T r b i = T i := fun i hi => al_o T (by omega)
  refine ⟨by rw [e _ (by omega)]; exact w0, by rw [e _ (by omega)]; exact w1, by rw [e _ (by omega)]; exact w2, by rw [e _ (by omega)]; exact w3, by rw [e _ (by omega)]; exact w4, fun q hq => ?_, fun c hc => ?_, fun q hq p hp h h4 => ?_⟩
  · rw [e _ (by omega)] at hq
    obtain ⟨y1, y2, y3, y4, y5, y6⟩ := wr q hq
    rw [e (21 + q) (by omega), e (25 + q) (by omega), e (29 + q) (by omega), e (33 + q) (by omega), e 0 (by omega)]
    refine ⟨y1, y2, y3, y4, y5, ?_⟩
    by_cases h : q = r
    · subst h
      rw [al_r T (by omega)]
      exact hb
    · rw [al_q T (by omega) h]
      exact Or.inl rfl
  · rw [e _ (by omega)] at hc
    rw [e (5 + c) (by omega), e (9 + c) (by omega), e (13 + c) (by omega)]
    exact wb c hc
  · rw [e _ (by omega)] at hq hp
    by_cases h1 : q = r
    · by_cases h2 : p = r
      · rw [h1, h2]
      · rw [al_q T (by omega) h2] at h
        exact absurd h h4
    · rw [al_q T (by omega) h1] at h4
      exact absurd rfl h4
theorem gd_al {T : Tw} {r b : Nat} (hr : r < T 1) (hT : T 1 ≤ 4) (k : Nat) : gdT (al T r b) k = pg r (al T r b) k := by
  rw [gdT_pg, al_o T (by omega)]
  have key : ∀ n, n ≤ T 1 → sm (fun q => pg q (al T r b) k) n = if r < n then pg r (al T r b) k else 0 := by
    intro n
    induction n with
    | zero => intro _; rfl
    | succ n ih =>
      intro hn
      show sm _ n + pg n (al T r b) k = _
      rw [ih (by omega)]
      by_cases h : n = r
      · subst h
        rw [if_neg (by omega), if_pos (by omega), Nat.zero_add]
      · rw [pg_no k _ (al_q T (by omega) h) (by omega)]
        by_cases h2 : r < n
        · rw [if_pos h2, if_pos (by omega), Nat.add_zero]
        · rw [if_neg h2, if_neg (by omega)]
  rw [key (T 1) (Nat.le_refl _), if_pos hr]
/-- what all grind together is what each pair grinds alone -/
theorem gd_sum {T : Tw} (hW : WF T) (k : Nat) (hk : T 4 + k ≤ 2000) : gdT T k = sm (fun r => if T (37 + r) = 4 then 0 else gdT (al T r (T (37 + r))) k) (T 1) := by
  have w0 := hW.1
  have w1 := hW.2.1
  rw [gdT_pg]
  refine sm_cong fun r hr => ?_
  have y6 := (hW.2.2.2.2.2.1 r hr).2.2.2.2.2
  by_cases h : T (37 + r) = 4
  · rw [if_pos h, pg_no k T h (by omega)]
  · rw [if_neg h, gd_al hr w1]
    refine PA_pg (b := T (37 + r)) (by omega) k T _ ?_ hW (WF_al hW y6) hr (by rw [al_o T (by omega)]; exact hr) rfl (al_r T (by omega)) hk
    unfold PA
    simp (disch := omega) only [al_o, and_self]
