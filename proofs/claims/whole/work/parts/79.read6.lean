/-! the model reads -/
section REF
variable {d p : Nat} {τ : Tp} {s : Ss} {S : Tw} {M N : sw_Mem} {Q : Option Value → sw_Mem → Prop}
def mR (τ : Tp) (p : Nat) (N : sw_Mem) : Prop := MTp τ N ∧ N 0 13 = nI p
def fN (N N' : sw_Mem) : Prop := (∀ k, k ≠ 0 → N' k = N k) ∧ ∀ j, j ≠ 13 → j ≠ 14 → j ≠ 15 → N' 0 j = N 0 j
theorem fN.rf : fN N N := ⟨fun _ _ => rfl, fun _ _ _ _ => rfl⟩
theorem fN.tr {N1 N2 : sw_Mem} (h : fN N N1) (h2 : fN N1 N2) : fN N N2 := ⟨fun k hk => (h2.1 k hk).trans (h.1 k hk), fun j j1 j2 j3 => (h2.2 j j1 j2 j3).trans (h.2 j j1 j2 j3)⟩
theorem fN.up {N1 : sw_Mem} {j : Nat} {x : Int32} (h : fN N N1) (hj : j = 13 ∨ j = 14 ∨ j = 15) : fN N (sw_up N1 0 j x) := ⟨fun k hk => (z_up_n _ _ hk).trans (h.1 k hk), fun q j1 j2 j3 => by rw [z_up_j _ _ (by omega)]; exact h.2 q j1 j2 j3⟩
theorem MTp_f {N' : sw_Mem} (h : MTp τ N) (e : fN N N') : MTp τ N' := ⟨by rw [e.2 8 (by omega) (by omega) (by omega)]; exact h.1, fun i hi => by rw [e.1 6 (by omega)]; exact h.2 i hi⟩
theorem k143 (h : MTp τ N) (hO : OTp τ) (h13 : N 0 13 = nI p) (hp : p < 200) {c : Nat} (hc : c < 256) : sw_Cal (d + 1) 143 [.ref 0, .int (nI c)] N Q = if p < τ.2 ∧ τ.1 p = c then Q (some (.int (nI 1))) N else Q (some (.int (nI 0))) N := by
  obtain ⟨h1, h2⟩ := h
  obtain ⟨o1, o2⟩ := hO
  rw [c143]
  by_cases a : p < τ.2
  · have g := h2 p a
    have := o2 p a
    by_cases e : τ.1 p = c
    · rw [if_pos ⟨a, e⟩]
      rw [e] at g
      simp (disch := omega) only [s143_0, s143_1, s143_4, s143_5, s143_8, s143_11, s143_12, s143_15, s143_16, s143_19, s143_20, s143_21, s143_24, s143_25, s143_28, s143_29, z_lt_t, z_lt_f, z_le_t, z_le_f, z_lt0, z_ge0, z_cl, z_in, z_add, z_eq_f, z_ne0, z_00, z_10, z_01, z_11, z_neg1, z_nI_NONE, z_div, z_rem, z_rem2, sw_pu_s, sw_pu_n, true_and, and_true, true_or, or_true, if_true, if_false, not_true_eq_false, not_false_eq_true, h13, h1, g]
    · rw [if_neg (fun w => e w.2)]
      simp (disch := omega) only [s143_0, s143_1, s143_4, s143_5, s143_8, s143_11, s143_12, s143_15, s143_16, s143_19, s143_20, s143_21, s143_24, s143_25, s143_28, s143_29, z_lt_t, z_lt_f, z_le_t, z_le_f, z_lt0, z_ge0, z_cl, z_in, z_add, z_eq_f, z_ne0, z_00, z_10, z_01, z_11, z_neg1, z_nI_NONE, z_div, z_rem, z_rem2, sw_pu_s, sw_pu_n, true_and, and_true, true_or, or_true, if_true, if_false, not_true_eq_false, not_false_eq_true, h13, h1, g]
  · rw [if_neg (fun w => a w.1)]
    simp (disch := omega) only [s143_0, s143_1, s143_4, s143_5, s143_8, s143_11, s143_12, s143_15, s143_16, s143_19, s143_20, s143_21, s143_24, s143_25, s143_28, s143_29, z_lt_t, z_lt_f, z_le_t, z_le_f, z_lt0, z_ge0, z_cl, z_in, z_add, z_eq_f, z_ne0, z_00, z_10, z_01, z_11, z_neg1, z_nI_NONE, z_div, z_rem, z_rem2, sw_pu_s, sw_pu_n, true_and, and_true, true_or, or_true, if_true, if_false, not_true_eq_false, not_false_eq_true, h13, h1]
theorem k144 (h : MTp τ N) (hO : OTp τ) {i : Nat} (hi : i < 200) : sw_Cal (d + 2) 144 [.ref 0, .int (nI i)] N Q = if isF τ i then Q (some (.int (nI 1))) N else Q (some (.int (nI 0))) N := by
  obtain ⟨h1, h2⟩ := h
  obtain ⟨o1, o2⟩ := hO
  rw [c144]
  by_cases a : i < τ.2
  · have g := h2 i a
    have := o2 i a
    by_cases e : 48 ≤ τ.1 i ∧ τ.1 i ≤ 57
    · rw [if_pos ⟨a, e⟩]
      simp (disch := omega) only [s144_0, s144_1, s144_2, s144_5, s144_8, s144_9, s144_12, s144_13, s144_14, s144_15, s144_18, s144_21, s144_24, s144_27, s144_28, s144_31, s144_32, z_lt_t, z_lt_f, z_le_t, z_le_f, z_lt0, z_ge0, z_cl, z_in, z_add, z_eq_f, z_ne0, z_00, z_10, z_01, z_11, z_neg1, z_nI_NONE, z_div, z_rem, z_rem2, sw_pu_s, sw_pu_n, true_and, and_true, true_or, or_true, if_true, if_false, not_true_eq_false, not_false_eq_true, h1, g, k129, z_lT, z_xT, z_TI, ↓if_pos, ↓if_neg]
    · rw [if_neg (fun w => e w.2)]
      simp (disch := omega) only [s144_0, s144_1, s144_2, s144_5, s144_8, s144_9, s144_12, s144_13, s144_14, s144_15, s144_18, s144_21, s144_24, s144_27, s144_28, s144_31, s144_32, z_lt_t, z_lt_f, z_le_t, z_le_f, z_lt0, z_ge0, z_cl, z_in, z_add, z_eq_f, z_ne0, z_00, z_10, z_01, z_11, z_neg1, z_nI_NONE, z_div, z_rem, z_rem2, sw_pu_s, sw_pu_n, true_and, and_true, true_or, or_true, if_true, if_false, not_true_eq_false, not_false_eq_true, h1, g, k129, z_lT, z_xT, z_TI, ↓if_pos, ↓if_neg]
  · rw [if_neg (fun w => a w.1)]
    simp (disch := omega) only [s144_0, s144_1, s144_2, s144_5, s144_8, s144_9, s144_12, s144_13, s144_14, s144_15, s144_18, s144_21, s144_24, s144_27, s144_28, s144_31, s144_32, z_lt_t, z_lt_f, z_le_t, z_le_f, z_lt0, z_ge0, z_cl, z_in, z_add, z_eq_f, z_ne0, z_00, z_10, z_01, z_11, z_neg1, z_nI_NONE, z_div, z_rem, z_rem2, sw_pu_s, sw_pu_n, true_and, and_true, true_or, or_true, if_true, if_false, not_true_eq_false, not_false_eq_true, h1]
def bz (s : Ss) : Int32 := if s.1 = 0 then nI 1 else nI 0
def oM (τ : Tp) (s : Ss) (N N' : sw_Mem) : Prop := mR τ s.2 N' ∧ (s.1 ≠ 0 → N' 0 14 = nI s.1) ∧ fN N N'
theorem k146 (h : mR τ p N) (hO : OTp τ) (hp : p ≤ τ.2) {c : Nat} (hc : c < 256) : ∃ N', oM τ (tkS τ c (0, p)) N N' ∧ ∀ Q, sw_Cal (d + 2) 146 [.ref 0, .int (nI c)] N Q = Q (some (.int (bz (tkS τ c (0, p))))) N' := by
  have hol := hO.1
  have h143 := fun d Q => k143 (d := d) (Q := Q) h.1 hO h.2 (by omega) hc
  have h13 := h.2
  by_cases a : p < τ.2 ∧ τ.1 p = c
  · have e : tkS τ c (0, p) = (0, p + 1) := by unfold tkS; rw [if_pos rfl, if_pos a]
    rw [e]
    have f := fN.rf (N := N).up (j := 13) (x := nI (p + 1)) (by omega)
    refine ⟨_, ⟨⟨MTp_f h.1 f, z_up_s _ _ _ _⟩, fun w => absurd rfl w, f⟩, fun Q => ?_⟩
    rw [c146]
    have t := eq_true a
    simp (disch := omega) only [s146_0, s146_1, s146_2, s146_5, s146_8, s146_9, s146_10, s146_13, s146_14, s146_15, s146_16, s146_19, s146_20, s146_21, s146_24, s146_25, z_lt_t, z_lt_f, z_le_t, z_le_f, z_lt0, z_ge0, z_cl, z_in, z_add, z_eq_f, z_ne0, z_00, z_10, z_01, z_11, z_neg1, z_nI_NONE, z_div, z_rem, z_rem2, sw_pu_s, sw_pu_n, true_and, and_true, true_or, or_true, if_true, if_false, not_true_eq_false, not_false_eq_true, h143, h13, t]
    rfl
  · have e : tkS τ c (0, p) = (1, p) := by unfold tkS; rw [if_pos rfl, if_neg a]
    rw [e]
    have f := fN.rf (N := N).up (j := 14) (x := nI 1) (by omega)
    refine ⟨_, ⟨⟨MTp_f h.1 f, by rw [z_up_j _ _ (by omega)]; exact h13⟩, fun _ => z_up_s _ _ _ _, f⟩, fun Q => ?_⟩
    rw [c146]
    have t := eq_false a
    simp (disch := omega) only [s146_0, s146_1, s146_2, s146_5, s146_8, s146_9, s146_10, s146_13, s146_14, s146_15, s146_16, s146_19, s146_20, s146_21, s146_24, s146_25, c145, s145_0, s145_1, s145_2, s145_5, s145_6, z_lt_t, z_lt_f, z_le_t, z_le_f, z_lt0, z_ge0, z_cl, z_in, z_add, z_eq_f, z_ne0, z_00, z_10, z_01, z_11, z_neg1, z_nI_NONE, z_div, z_rem, z_rem2, sw_pu_s, sw_pu_n, true_and, and_true, true_or, or_true, if_true, if_false, not_true_eq_false, not_false_eq_true, h143, h13, t]
    rfl
set_option maxHeartbeats 2000000 in
theorem k147 (h : mR τ p N) (hO : OTp τ) (hp : p ≤ τ.2) {lo hi : Nat} (hl : lo < 100) (hh : hi < 100) : ∃ N', oM τ (nmS τ lo hi (0, p)) N N' ∧ ((nmS τ lo hi (0, p)).1 = 0 → N' 0 15 = nI (nmV τ lo hi (0, p))) ∧ ∀ Q, sw_Cal (d + 3) 147 [.ref 0, .int (nI lo), .int (nI hi)] N Q = Q (some (.int (bz (nmS τ lo hi (0, p))))) N' := by
  have hol := hO.1
  have h13 := h.2
  have h144 := fun i d Q (hi : i < 200) => k144 (d := d) (Q := Q) h.1 hO hi
  have bad1 : nmK τ lo hi p = 1 → ∃ N', oM τ (nmS τ lo hi (0, p)) N N' ∧ ((nmS τ lo hi (0, p)).1 = 0 → N' 0 15 = nI (nmV τ lo hi (0, p))) ∧ N' = sw_up N 0 14 (nI 1) ∧ bz (nmS τ lo hi (0, p)) = nI 0 := by
    intro ek
    have e : nmS τ lo hi (0, p) = (1, p) := by unfold nmS; rw [if_pos rfl, ek, if_neg (by decide)]
    rw [e]
    have f := fN.rf (N := N).up (j := 14) (x := nI 1) (by omega)
    exact ⟨_, ⟨⟨MTp_f h.1 f, by rw [z_up_j _ _ (by omega)]; exact h13⟩, fun _ => z_up_s _ _ _ _, f⟩, fun w => absurd w (Nat.succ_ne_zero 0), rfl, rfl⟩
  have hend : ∀ (n : Nat) (v w0 : Nat), (n = 1 ∨ n = 2) → fig τ p = n → vlu τ p = v → v < 1000 → ∃ N', oM τ (nmS τ lo hi (0, p)) N N' ∧ ((nmS τ lo hi (0, p)).1 = 0 → N' 0 15 = nI (nmV τ lo hi (0, p))) ∧ ∀ Q, sw_WP (d + 2) 147 116 [.ref 0, .int (nI lo), .int (nI hi), .int (nI n)] [] (sw_up (sw_up N 0 15 (nI w0)) 0 15 (nI v)) Q = Q (some (.int (bz (nmS τ lo hi (0, p))))) N' := by
    intro n v w0 hn hf hv hv9
    have f0 := (fN.rf (N := N).up (j := 15) (x := nI w0) (by omega)).up (j := 15) (x := nI v) (by omega)
    have g15 : sw_up (sw_up N 0 15 (nI w0)) 0 15 (nI v) 0 15 = nI v := z_up_s _ _ _ _
    have g13 : sw_up (sw_up N 0 15 (nI w0)) 0 15 (nI v) 0 13 = nI p := by rw [z_up_j _ _ (by omega), z_up_j _ _ (by omega)]; exact h13
    by_cases c : v < lo ∨ hi < v
    · have ek : nmK τ lo hi p = 2 := by unfold nmK; rw [hf, if_neg (by omega), hv, if_pos c]
      have e : nmS τ lo hi (0, p) = (2, p) := by unfold nmS; rw [if_pos rfl, ek, if_neg (by decide)]
      rw [e]
      have f := f0.up (j := 14) (x := nI 2) (by omega)
      refine ⟨_, ⟨⟨MTp_f h.1 f, by rw [z_up_j _ _ (by omega)]; exact g13⟩, fun _ => z_up_s _ _ _ _, f⟩, fun w => absurd w (Nat.succ_ne_zero 1), fun Q => ?_⟩
      simp (disch := omega) only [s147_116, s147_117, s147_120, s147_121, s147_122, s147_123, s147_124, s147_125, s147_128, s147_131, s147_132, s147_133, s147_136, s147_137, s147_138, s147_139, s147_142, s147_143, s147_144, s147_147, s147_148, c145, s145_0, s145_1, s145_2, s145_5, s145_6, z_lt_t, z_lt_f, z_le_t, z_le_f, z_lt0, z_ge0, z_cl, z_in, z_add, z_eq_f, z_ne0, z_00, z_10, z_01, z_11, z_neg1, z_nI_NONE, z_div, z_rem, z_rem2, sw_pu_s, sw_pu_n, true_and, and_true, true_or, or_true, if_true, if_false, not_true_eq_false, not_false_eq_true, g15, k129, z_lT, z_xT, z_TI, ↓if_pos, ↓if_neg]
      rfl
    · have ek : nmK τ lo hi p = 0 := by unfold nmK; rw [hf, if_neg (by omega), hv, if_neg c]
      have e : nmS τ lo hi (0, p) = (0, p + n) := by unfold nmS; rw [if_pos rfl, ek, if_pos rfl, hf]
      have ev : nmV τ lo hi (0, p) = v := by unfold nmV; rw [if_pos ⟨rfl, ek⟩, hv]
      rw [e, ev]
      have f := f0.up (j := 13) (x := nI (p + n)) (by omega)
      refine ⟨_, ⟨⟨MTp_f h.1 f, z_up_s _ _ _ _⟩, fun w => absurd rfl w, f⟩, fun _ => by rw [z_up_j _ _ (by omega)]; exact g15, fun Q => ?_⟩
      simp (disch := omega) only [s147_116, s147_117, s147_120, s147_121, s147_122, s147_123, s147_124, s147_125, s147_128, s147_131, s147_132, s147_133, s147_136, s147_137, s147_138, s147_139, s147_142, s147_143, s147_144, s147_147, s147_148, z_lt_t, z_lt_f, z_le_t, z_le_f, z_lt0, z_ge0, z_cl, z_in, z_add, z_eq_f, z_ne0, z_00, z_10, z_01, z_11, z_neg1, z_nI_NONE, z_div, z_rem, z_rem2, sw_pu_s, sw_pu_n, true_and, and_true, true_or, or_true, if_true, if_false, not_true_eq_false, not_false_eq_true, g15, g13, k129, z_lT, z_xT, z_TI, ↓if_pos, ↓if_neg]
      rfl
  by_cases a : isF τ p
  · have a1 := a.2
    have gp := h.1.2 p a.1
    have p144 := fun d Q => (h144 p d Q (by omega)).trans (if_pos a)
    have f1 := fN.rf (N := N).up (j := 15) (x := nI (τ.1 p - 48)) (by omega)
    have h13' : sw_up N 0 15 (nI (τ.1 p - 48)) 0 13 = nI p := by rw [z_up_j _ _ (by omega)]; exact h13
    have h144' := fun d Q => k144 (d := d) (Q := Q) (MTp_f h.1 f1) hO (i := p + 1) (by omega)
    by_cases b : isF τ (p + 1)
    · have b1 := b.2
      have gq := h.1.2 (p + 1) b.1
      have q144 := fun d Q => (h144 (p + 1) d Q (by omega)).trans (if_pos b)
      have q144' := fun d Q => (h144' d Q).trans (if_pos b)
      by_cases c : isF τ (p + 2)
      · have r144 := fun d Q => (h144 (p + 2) d Q (by omega)).trans (if_pos c)
        obtain ⟨N', a1, a2, a3, a4⟩ := bad1 (by unfold nmK fig; rw [if_pos a, if_pos b, if_pos c, if_pos (Or.inr rfl)])
        refine ⟨N', a1, a2, fun Q => ?_⟩
        rw [a3, a4, c147]
        simp (disch := omega) only [s147_0, s147_1, s147_2, s147_5, s147_8, s147_11, s147_12, s147_13, s147_16, s147_17, s147_18, s147_21, s147_24, s147_25, s147_26, s147_29, s147_30, s147_31, s147_34, s147_37, s147_38, s147_39, s147_42, c145, s145_0, s145_1, s145_2, s145_5, s145_6, z_lt_t, z_lt_f, z_le_t, z_le_f, z_lt0, z_ge0, z_cl, z_in, z_add, z_eq_f, z_ne0, z_00, z_10, z_01, z_11, z_neg1, z_nI_NONE, z_div, z_rem, z_rem2, sw_pu_s, sw_pu_n, true_and, and_true, true_or, or_true, if_true, if_false, not_true_eq_false, not_false_eq_true, h13, p144, q144, r144]
      · have r144 := fun d Q => (h144 (p + 2) d Q (by omega)).trans (if_neg c)
        obtain ⟨N', a1, a2, a3⟩ := hend 2 (10 * (τ.1 p - 48) + τ.1 (p + 1) - 48) (τ.1 p - 48) (Or.inr rfl) (by unfold fig; rw [if_pos a, if_pos b, if_neg c]) (by unfold vlu; rw [if_pos b]; omega) (by omega)
        refine ⟨N', a1, a2, fun Q => ?_⟩
        rw [← a3 Q, c147]
        have gq' : sw_up N 0 15 (nI (τ.1 p - 48)) 6 (p + 1) = nI (τ.1 (p + 1)) := by rw [z_up_n _ _ (by omega)]; exact gq
        simp (disch := omega) only [s147_0, s147_1, s147_2, s147_5, s147_8, s147_11, s147_12, s147_13, s147_16, s147_17, s147_18, s147_21, s147_24, s147_25, s147_26, s147_29, s147_30, s147_31, s147_34, s147_37, s147_38, s147_39, s147_42, s147_43, s147_44, s147_45, s147_48, s147_49, s147_52, s147_53, s147_55, s147_56, s147_59, s147_60, s147_61, s147_64, s147_65, s147_66, s147_69, s147_72, s147_73, s147_76, s147_77, s147_78, s147_79, s147_80, s147_81, s147_84, s147_86, s147_87, s147_90, s147_91, s147_92, s147_95, s147_96, s147_99, s147_100, s147_101, s147_102, s147_103, s147_105, s147_106, s147_109, s147_110, s147_113, z_lt_t, z_lt_f, z_le_t, z_le_f, z_lt0, z_ge0, z_cl, z_in, z_add, z_eq_f, z_ne0, z_00, z_10, z_01, z_11, z_neg1, z_nI_NONE, z_div, z_rem, z_rem2, sw_pu_s, sw_pu_n, true_and, and_true, true_or, or_true, if_true, if_false, not_true_eq_false, not_false_eq_true, z_sub, z_mul, h13, h13', gp, gq, gq', p144, q144, r144, q144', z_up_s]
    · have q144 := fun d Q => (h144 (p + 1) d Q (by omega)).trans (if_neg b)
      have q144' := fun d Q => (h144' d Q).trans (if_neg b)
      obtain ⟨N', a1, a2, a3⟩ := hend 1 (τ.1 p - 48) (τ.1 p - 48) (Or.inl rfl) (by unfold fig; rw [if_pos a, if_neg b]) (by unfold vlu; rw [if_neg b]) (by omega)
      refine ⟨N', a1, a2, fun Q => ?_⟩
      rw [← a3 Q, c147]
      simp (disch := omega) only [s147_0, s147_1, s147_2, s147_5, s147_8, s147_11, s147_12, s147_13, s147_16, s147_17, s147_18, s147_21, s147_24, s147_25, s147_26, s147_29, s147_30, s147_31, s147_34, s147_37, s147_38, s147_39, s147_42, s147_43, s147_44, s147_45, s147_48, s147_49, s147_52, s147_53, s147_55, s147_56, s147_59, s147_60, s147_61, s147_64, s147_65, s147_66, s147_69, s147_72, s147_73, s147_76, s147_77, s147_78, s147_79, s147_80, s147_81, s147_84, s147_86, s147_87, s147_90, s147_91, s147_92, s147_95, s147_96, s147_99, s147_100, s147_101, s147_102, s147_103, s147_105, s147_106, s147_109, s147_110, s147_113, z_lt_t, z_lt_f, z_le_t, z_le_f, z_lt0, z_ge0, z_cl, z_in, z_add, z_eq_f, z_ne0, z_00, z_10, z_01, z_11, z_neg1, z_nI_NONE, z_div, z_rem, z_rem2, sw_pu_s, sw_pu_n, true_and, and_true, true_or, or_true, if_true, if_false, not_true_eq_false, not_false_eq_true, z_sub, z_mul, h13, h13', gp, p144, q144, q144', z_up_s]
  · have p144 := fun d Q => (h144 p d Q (by omega)).trans (if_neg a)
    obtain ⟨N', a1, a2, a3, a4⟩ := bad1 (by unfold nmK fig; rw [if_neg a, if_pos (Or.inl rfl)])
    refine ⟨N', a1, a2, fun Q => ?_⟩
    rw [a3, a4, c147]
    simp (disch := omega) only [s147_0, s147_1, s147_2, s147_5, s147_8, s147_11, s147_12, s147_13, s147_16, s147_17, s147_18, s147_21, s147_24, s147_25, s147_26, s147_29, s147_30, s147_31, s147_34, s147_37, s147_38, s147_39, s147_42, c145, s145_0, s145_1, s145_2, s145_5, s145_6, z_lt_t, z_lt_f, z_le_t, z_le_f, z_lt0, z_ge0, z_cl, z_in, z_add, z_eq_f, z_ne0, z_00, z_10, z_01, z_11, z_neg1, z_nI_NONE, z_div, z_rem, z_rem2, sw_pu_s, sw_pu_n, true_and, and_true, true_or, or_true, if_true, if_false, not_true_eq_false, not_false_eq_true, h13, p144]
end REF
