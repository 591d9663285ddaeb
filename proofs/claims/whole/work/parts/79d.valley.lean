theorem ebT_o {τ : Tp} {S : Tw} {s : Ss} : ebT τ S s 2 = S 2 ∧ ebT τ S s 4 = S 4 ∧ S 0 ≤ ebT τ S s 0 ∧ 0 < ebT τ S s 0 := by
  unfold ebT
  by_cases c : 4 ≤ S 0
  · rw [if_pos c]
    exact ⟨rfl, rfl, Nat.le_refl _, by omega⟩
  · rw [if_neg c]
    refine ⟨?_, ?_, ?_, ?_⟩
    · rw [upT_n _ _ (by omega), upT_n _ _ (by omega), upT_n _ _ (by omega), upT_n _ _ (by omega)]
    · rw [upT_n _ _ (by omega), upT_n _ _ (by omega), upT_n _ _ (by omega), upT_n _ _ (by omega)]
    · rw [upT_s]; omega
    · rw [upT_s]; omega
theorem rnT_o {τ : Tp} {S : Tw} {s : Ss} : rnT τ S s 0 = S 0 ∧ rnT τ S s 2 = S 2 ∧ rnT τ S s 4 = S 4 := by
  unfold rnT
  split
  · exact ⟨rfl, rfl, rfl⟩
  · split
    · exact ⟨rfl, rfl, rfl⟩
    · refine ⟨?_, ?_, ?_⟩ <;> rw [upT_n _ _ (by omega), upT_n _ _ (by omega), upT_n _ _ (by omega), upT_n _ _ (by omega), upT_n _ _ (by omega), upT_n _ _ (by omega)]
theorem bL_o {τ : Tp} : ∀ k (s : Ss) (S : Tw), (bL τ k s S).2 2 = S 2 ∧ (bL τ k s S).2 4 = S 4 ∧ S 0 ≤ (bL τ k s S).2 0 := by
  intro k
  induction k with
  | zero => intro s S; exact ⟨rfl, rfl, Nat.le_refl _⟩
  | succ k ih =>
    intro s S
    rw [bL_s]
    split
    · obtain ⟨h1, h2, h3⟩ := ih (ebS τ S s) (ebT τ S s)
      obtain ⟨e1, e2, e3, e4⟩ := ebT_o (τ := τ) (S := S) (s := s)
      exact ⟨h1.trans e1, h2.trans e2, by omega⟩
    · exact ⟨rfl, rfl, Nat.le_refl _⟩
theorem rL_o {τ : Tp} : ∀ k (s : Ss) (S : Tw), (rL τ k s S).2 0 = S 0 ∧ (rL τ k s S).2 2 = S 2 ∧ (rL τ k s S).2 4 = S 4 := by
  intro k
  induction k with
  | zero => intro s S; exact ⟨rfl, rfl, rfl⟩
  | succ k ih =>
    intro s S
    rw [rL_s]
    split
    · obtain ⟨h1, h2, h3⟩ := ih (rnS τ S s) (rnT τ S s)
      obtain ⟨e1, e2, e3⟩ := rnT_o (τ := τ) (S := S) (s := s)
      exact ⟨h1.trans e1, h2.trans e2, h3.trans e3⟩
    · exact ⟨rfl, rfl, rfl⟩
theorem prR_o (τ : Tp) : (prR τ).2 4 = 0 ∧ 0 < (prR τ).2 2 ∧ ((prR τ).1.1 = 0 → 0 < (prR τ).2 0) := by
  have hl := (nmV_le (τ := τ) (lo := 1) (hi := 9) (by omega) (tkS τ 109 (0, 0))).1
  have e2 : lwT τ 2 = nmV τ 1 9 (tkS τ 109 (0, 0)) := rfl
  have e4 : lwT τ 4 = 0 := rfl
  obtain ⟨r0, r2, r4⟩ := rL_o (τ := τ) 5 (bR τ (lwS τ) (lwT τ)).1 (bR τ (lwS τ) (lwT τ)).2
  have hb : (bR τ (lwS τ) (lwT τ)).2 2 = lwT τ 2 ∧ (bR τ (lwS τ) (lwT τ)).2 4 = lwT τ 4 ∧ ((lwS τ).1 = 0 → 0 < (bR τ (lwS τ) (lwT τ)).2 0) := by
    unfold bR
    split
    · obtain ⟨b1', b2, b3⟩ := bL_o (τ := τ) 4 (ebS τ (lwT τ) (lwS τ)) (ebT τ (lwT τ) (lwS τ))
      obtain ⟨q1, q2, q3, q4⟩ := ebT_o (τ := τ) (S := lwT τ) (s := lwS τ)
      exact ⟨b1'.trans q1, b2.trans q2, fun _ => by omega⟩
    · rename_i h
      exact ⟨rfl, rfl, fun w => absurd w h⟩
  refine ⟨?_, ?_, fun h => ?_⟩
  · show (rL τ 5 _ _).2 4 = 0
    rw [r4, hb.2.1, e4]
  · show 0 < (rL τ 5 _ _).2 2
    rw [r2, hb.1, e2]; omega
  · show 0 < (rL τ 5 _ _).2 0
    rw [r0]
    refine hb.2.2 ?_
    by_cases c : (lwS τ).1 = 0
    · exact c
    · have e : prR τ = (lwS τ, lwT τ) := by
        unfold prR bR
        rw [if_neg c, rL_n _ (fun w => c w.1)]
      rw [e] at h
      exact absurd h c
section REJ
variable {d p : Nat} {τ : Tp} {s : Ss} {S : Tw} {M N : sw_Mem} {Q : Option Value → sw_Mem → Prop}
theorem k154z : ∀ n i (N : sw_Mem), i + n = 41 → (∀ j, j < i → N 1 (1107 + j) = nI 0) → ∃ N', IsM N' 1107 (fun _ => 0) ∧ gN N N' ∧ (N' 0 = N 0) ∧ ∀ Q, sw_WP d 154 2 [.ref 0, .int (nI i)] [] N Q = sw_WP d 154 25 [.ref 0, .int (nI 41)] [] N' Q := by
  intro n
  induction n with
  | zero =>
    intro i N hi h
    obtain rfl : i = 41 := by omega
    refine ⟨N, h, gN.rf, rfl, fun Q => ?_⟩
    refine (s154_2 ..).trans ?_
    simp (disch := omega) only [s154_3, s154_5, z_lt_t, z_lt_f, z_le_t, z_le_f, z_lt0, z_ge0, z_cl, z_in, z_add, z_eq_f, z_ne0, z_00, z_10, z_01, z_11, z_neg1, z_nI_NONE, z_div, z_rem, z_rem2, sw_pu_s, sw_pu_n, true_and, and_true, true_or, or_true, if_true, if_false, not_true_eq_false, not_false_eq_true]
  | succ n ih =>
    intro i N hi h
    obtain ⟨N', a1, a2, a3, a4⟩ := ih (i + 1) (sw_up N 1 (1107 + i) (nI 0)) (by omega) (fun j hj => by
      by_cases e : j = i
      · subst e; exact z_up_s _ _ _ _
      · rw [z_up_j _ _ (by omega)]; exact h j (by omega))
    refine ⟨N', a1, (gN.u (by omega)).tr a2, a3.trans (z_up_n _ _ (by omega)), fun Q => ?_⟩
    rw [← a4 Q]
    refine (s154_2 ..).trans ?_
    simp (disch := omega) only [s154_3, s154_5, s154_8, s154_9, s154_12, s154_15, s154_16, s154_17, s154_18, s154_19, s154_22, z_lt_t, z_lt_f, z_le_t, z_le_f, z_lt0, z_ge0, z_cl, z_in, z_add, z_eq_f, z_ne0, z_00, z_10, z_01, z_11, z_neg1, z_nI_NONE, z_div, z_rem, z_rem2, sw_pu_s, sw_pu_n, true_and, and_true, true_or, or_true, if_true, if_false, not_true_eq_false, not_false_eq_true]
theorem k154b (hO : OTp τ) : ∀ k p (S : Tw) (N : sw_Mem), S 0 + k = 5 → p ≤ τ.2 → mR τ p N → WF S → fl0 S → IsM N 1107 S → ∃ N', oG τ (bL τ k (0, p) S).1 N N' ∧ ((bL τ k (0, p) S).1.1 = 0 → IsM N' 1107 (bL τ k (0, p) S).2) ∧ WF (bL τ k (0, p) S).2 ∧ fl0 (bL τ k (0, p) S).2 ∧ oS τ (bL τ k (0, p) S).1 ∧ ∀ Q, sw_WP (d + 5) 154 56 [.ref 0, .int (nI 1)] [] N Q = sw_WP (d + 5) 154 77 [.ref 0, .int (bz (bL τ k (0, p) S).1)] [] N' Q := by
  intro k
  induction k with
  | zero => intro p S N hk hp h hW hf hS; have := hW.1; omega
  | succ k ih =>
    intro p S N hk hp h hW hf hS
    have hol := hO.1
    have h143 := fun d Q => k143 (d := d) (Q := Q) h.1 hO h.2 (by omega) (c := 98) (by omega)
    rw [bL_s]
    by_cases c : p < τ.2 ∧ τ.1 p = 98
    · rw [if_pos ⟨rfl, c⟩]
      have t := eq_true c
      obtain ⟨N1, a1, a2, a3⟩ := k150 (d := d) h hO c.1 c.2 hW hS
      obtain ⟨w1, w2⟩ := WF_bd (τ := τ) (s := (0, p)) hW hf
      have o1 : oS τ (ebS τ S (0, p)) := ebS_ok ⟨Nat.zero_le _, hp⟩
      by_cases c1 : (ebS τ S (0, p)).1 = 0
      · rw [bz_0 c1] at a3
        have e0 : ebT τ S (0, p) 0 = S 0 + 1 := by
          unfold ebT
          unfold ebS at c1
          by_cases q : 4 ≤ S 0
          · rw [if_pos q] at c1
            exact absurd c1 (Nat.succ_ne_zero 2)
          · rw [if_neg q]
            exact upT_s _ _ _
        obtain ⟨N2, b1', b2, b3, b4, b5, b6⟩ := ih (ebS τ S (0, p)).2 (ebT τ S (0, p)) N1 (by omega) o1.2 a1.1 w1 w2 (a2 c1)
        rw [← s_eq c1] at b1' b2 b3 b4 b5 b6
        refine ⟨N2, oG.pre a1.2.2 b1', b2, b3, b4, b5, fun Q => ?_⟩
        rw [← b6 Q]
        refine (s154_56 ..).trans ?_
        simp (disch := omega) only [s154_57, s154_60, s154_61, s154_63, s154_66, s154_69, s154_70, s154_73, s154_74, z_lt_t, z_lt_f, z_le_t, z_le_f, z_lt0, z_ge0, z_cl, z_in, z_add, z_eq_f, z_ne0, z_00, z_10, z_01, z_11, z_neg1, z_nI_NONE, z_div, z_rem, z_rem2, sw_pu_s, sw_pu_n, true_and, and_true, true_or, or_true, if_true, if_false, not_true_eq_false, not_false_eq_true, h143, t, a3]
      · rw [bL_n k (fun w => c1 w.1)]
        refine ⟨N1, a1, a2, w1, w2, o1, fun Q => ?_⟩
        rw [bz_n c1] at a3 ⊢
        refine (s154_56 ..).trans ?_
        simp (disch := omega) only [s154_56, s154_57, s154_60, s154_61, s154_63, s154_66, s154_69, s154_70, s154_73, s154_74, z_lt_t, z_lt_f, z_le_t, z_le_f, z_lt0, z_ge0, z_cl, z_in, z_add, z_eq_f, z_ne0, z_00, z_10, z_01, z_11, z_neg1, z_nI_NONE, z_div, z_rem, z_rem2, sw_pu_s, sw_pu_n, true_and, and_true, true_or, or_true, if_true, if_false, not_true_eq_false, not_false_eq_true, h143, t, a3]
    · have t := eq_false c
      rw [if_neg (fun w => c w.2)]
      refine ⟨N, ⟨h, fun w => absurd rfl w, gN.rf⟩, fun _ => hS, hW, hf, ⟨Nat.zero_le _, hp⟩, fun Q => ?_⟩
      rw [bz_0 rfl]
      refine (s154_56 ..).trans ?_
      simp (disch := omega) only [s154_57, s154_60, s154_61, s154_63, s154_66, s154_69, s154_70, s154_73, s154_74, z_lt_t, z_lt_f, z_le_t, z_le_f, z_lt0, z_ge0, z_cl, z_in, z_add, z_eq_f, z_ne0, z_00, z_10, z_01, z_11, z_neg1, z_nI_NONE, z_div, z_rem, z_rem2, sw_pu_s, sw_pu_n, true_and, and_true, true_or, or_true, if_true, if_false, not_true_eq_false, not_false_eq_true, h143, t]
theorem k154r (hO : OTp τ) : ∀ k p (S : Tw) (N : sw_Mem), S 1 + k = 5 → p ≤ τ.2 → mR τ p N → WF S → fl0 S → IsM N 1107 S → ∃ N', oG τ (rL τ k (0, p) S).1 N N' ∧ ((rL τ k (0, p) S).1.1 = 0 → IsM N' 1107 (rL τ k (0, p) S).2) ∧ ∀ Q, sw_WP (d + 5) 154 77 [.ref 0, .int (nI 1)] [] N Q = Q (some (.int (bz (rL τ k (0, p) S).1))) N' := by
  intro k
  induction k with
  | zero => intro p S N hk hp h hW hf hS; have := hW.2.1; omega
  | succ k ih =>
    intro p S N hk hp h hW hf hS
    have hol := hO.1
    have h13 := h.2
    have h8 := h.1.1
    rw [rL_s]
    by_cases c : p < τ.2
    · rw [if_pos ⟨rfl, c⟩]
      have hx := hO.2 p c
      have gp := h.1.2 p c
      have h151 := fun d N Q => k151 (d := d) (N := N) (Q := Q) (show τ.1 p < 256 by omega)
      have hk5 := kOf_le (τ.1 p)
      by_cases ck : kOf (τ.1 p) = 0
      · have e : rnS τ S (0, p) = (1, p) := if_pos ck
        rw [e, rL_n k (fun w => absurd w.1 (Nat.succ_ne_zero 0))]
        have f := fN.rf (N := N).up (j := 14) (x := nI 1) (by omega)
        refine ⟨_, ⟨⟨MTp_f h.1 f, by rw [z_up_j _ _ (by omega)]; exact h13⟩, fun _ => z_up_s _ _ _ _, gN.f f⟩, fun w => absurd w (Nat.succ_ne_zero 0), fun Q => ?_⟩
        rw [ck] at h151
        have z0 : ((nI 0 : Int32) ≤ 0) = True := eq_true (by decide)
        refine (s154_77 ..).trans ?_
        simp (disch := omega) only [s154_78, s154_81, s154_82, s154_85, s154_88, s154_89, s154_92, s154_93, s154_96, s154_97, s154_100, s154_101, s154_104, s154_105, s154_108, s154_111, s154_112, s154_113, s154_116, s154_119, s154_120, s154_123, s154_124, c153, s153_0, s153_1, s153_4, s153_5, s153_8, s153_11, s153_12, s153_15, s153_16, s153_19, s153_20, s153_23, s153_26, s153_27, s153_30, s153_31, c145, s145_0, s145_1, s145_2, s145_5, s145_6, z_lt_t, z_lt_f, z_le_t, z_le_f, z_lt0, z_ge0, z_cl, z_in, z_add, z_eq_f, z_ne0, z_00, z_10, z_01, z_11, z_neg1, z_nI_NONE, z_div, z_rem, z_rem2, sw_pu_s, sw_pu_n, true_and, and_true, true_or, or_true, if_true, if_false, not_true_eq_false, not_false_eq_true, h13, h8, gp, h151, z0]
        rfl
      · obtain ⟨N1, a1, a2, a3⟩ := k152 (d := d) h hO c ck hW hS
        obtain ⟨w1, w2, w3, w4⟩ := WF_rn (τ := τ) (s := (0, p)) hW hf
        have o1 : oS τ (rnS τ S (0, p)) := rnS_ok ⟨Nat.zero_le _, hp⟩ c
        have zk : ((nI (kOf (τ.1 p)) : Int32) ≤ 0) = False := by rw [z_le0 (by omega)]; exact eq_false ck
        by_cases c1 : (rnS τ S (0, p)).1 = 0
        · rw [bz_0 c1] at a3
          have e0 : rnT τ S (0, p) 1 = S 1 + 1 := by
            unfold rnT
            unfold rnS at c1
            rw [if_neg ck] at c1 ⊢
            by_cases q : 4 ≤ S 1
            · rw [if_pos q] at c1
              exact absurd c1 (Nat.succ_ne_zero 2)
            · rw [if_neg q]
              exact upT_s _ _ _
          obtain ⟨N2, b1', b2, b3⟩ := ih (rnS τ S (0, p)).2 (rnT τ S (0, p)) N1 (by omega) o1.2 a1.1 w1 w2 (a2 c1)
          rw [← s_eq c1] at b1' b2 b3
          refine ⟨N2, oG.pre a1.2.2 b1', b2, fun Q => ?_⟩
          rw [← b3 Q]
          refine (s154_77 ..).trans ?_
          simp (disch := omega) only [s154_78, s154_81, s154_82, s154_85, s154_88, s154_89, s154_92, s154_93, c153, s153_0, s153_1, s153_4, s153_5, s153_8, s153_11, s153_12, s153_15, s153_16, s153_19, s153_20, s153_23, s153_26, s153_27, s153_30, s153_31, z_lt_t, z_lt_f, z_le_t, z_le_f, z_lt0, z_ge0, z_cl, z_in, z_add, z_eq_f, z_ne0, z_00, z_10, z_01, z_11, z_neg1, z_nI_NONE, z_div, z_rem, z_rem2, sw_pu_s, sw_pu_n, true_and, and_true, true_or, or_true, if_true, if_false, not_true_eq_false, not_false_eq_true, h13, h8, gp, h151, zk, a3]
        · rw [rL_n k (fun w => c1 w.1)]
          refine ⟨N1, a1, a2, fun Q => ?_⟩
          rw [bz_n c1] at a3 ⊢
          refine (s154_77 ..).trans ?_
          simp (disch := omega) only [s154_77, s154_78, s154_81, s154_82, s154_85, s154_88, s154_89, s154_92, s154_93, s154_96, s154_97, s154_100, s154_101, s154_104, s154_105, s154_108, s154_111, s154_112, s154_113, s154_116, s154_119, s154_120, s154_123, s154_124, c153, s153_0, s153_1, s153_4, s153_5, s153_8, s153_11, s153_12, s153_15, s153_16, s153_19, s153_20, s153_23, s153_26, s153_27, s153_30, s153_31, z_lt_t, z_lt_f, z_le_t, z_le_f, z_lt0, z_ge0, z_cl, z_in, z_add, z_eq_f, z_ne0, z_00, z_10, z_01, z_11, z_neg1, z_nI_NONE, z_div, z_rem, z_rem2, sw_pu_s, sw_pu_n, true_and, and_true, true_or, or_true, if_true, if_false, not_true_eq_false, not_false_eq_true, h13, h8, gp, h151, zk, a3]
    · rw [if_neg (fun w => c w.2)]
      obtain rfl : p = τ.2 := by omega
      refine ⟨N, ⟨h, fun w => absurd rfl w, gN.rf⟩, fun _ => hS, fun Q => ?_⟩
      rw [bz_0 rfl]
      refine (s154_77 ..).trans ?_
      simp (disch := omega) only [s154_78, s154_81, s154_82, s154_85, s154_88, s154_89, s154_92, s154_93, s154_96, s154_97, s154_100, s154_101, s154_104, s154_105, s154_108, s154_111, s154_112, s154_113, s154_116, s154_119, s154_120, s154_123, s154_124, c153, s153_0, s153_1, s153_4, s153_5, s153_8, s153_11, s153_12, s153_15, s153_16, s153_19, s153_20, s153_23, s153_26, s153_27, s153_30, s153_31, z_lt_t, z_lt_f, z_le_t, z_le_f, z_lt0, z_ge0, z_cl, z_in, z_add, z_eq_f, z_ne0, z_00, z_10, z_01, z_11, z_neg1, z_nI_NONE, z_div, z_rem, z_rem2, sw_pu_s, sw_pu_n, true_and, and_true, true_or, or_true, if_true, if_false, not_true_eq_false, not_false_eq_true, h13, h8]
theorem k154 (h : MTp τ N) (hO : OTp τ) : ∃ N', oG τ (prR τ).1 N N' ∧ ((prR τ).1.1 = 0 → IsM N' 1107 (prR τ).2) ∧ ∀ Q, sw_Cal (d + 6) 154 [.ref 0] N Q = Q (some (.int (bz (prR τ).1))) N' := by
  obtain ⟨N0, z1, z2, z3, z4⟩ := k154z (d := d + 5) 41 0 N (by omega) (fun j hj => absurd hj (Nat.not_lt_zero j))
  have f0 := fN.rf (N := N0).up (j := 13) (x := nI 0) (by omega)
  have hN0 : MTp τ N0 := ⟨by rw [z3]; exact h.1, fun i hi => by rw [z2.1 6 (by omega) (by omega)]; exact h.2 i hi⟩
  obtain ⟨N1, a1, a2, a3⟩ := k148 (d := d + 1) ⟨MTp_f hN0 f0, z_up_s _ _ _ _⟩ hO (IsM_f z1 f0)
  obtain ⟨w1, w2, w3⟩ := lw_ok τ
  have G1 := (z2.tr (gN.f f0)).tr a1.2.2
  by_cases c1 : (lwS τ).1 = 0
  case neg =>
    have e : prR τ = (lwS τ, lwT τ) := by
      unfold prR bR
      rw [if_neg c1, rL_n _ (fun w => c1 w.1)]
    rw [e]
    refine ⟨N1, ⟨a1.1, a1.2.1, G1⟩, a2, fun Q => ?_⟩
    rw [bz_n c1] at a3 ⊢
    rw [c154]
    simp (disch := omega) only [s154_0, s154_1]
    rw [z4]
    simp (disch := omega) only [s154_25, s154_26, s154_27, s154_30, s154_31, s154_34, s154_37, s154_38, z_lt_t, z_lt_f, z_le_t, z_le_f, z_lt0, z_ge0, z_cl, z_in, z_add, z_eq_f, z_ne0, z_00, z_10, z_01, z_11, z_neg1, z_nI_NONE, z_div, z_rem, z_rem2, sw_pu_s, sw_pu_n, true_and, and_true, true_or, or_true, if_true, if_false, not_true_eq_false, not_false_eq_true, a3]
  have S1 := a2 c1
  rw [bz_0 c1] at a3
  have hol := hO.1
  have h13 := a1.1.2
  have hw2 := w3.2
  have h143 := fun d Q => k143 (d := d) (Q := Q) a1.1.1 hO h13 (by omega) (c := 98) (by omega)
  by_cases c : (lwS τ).2 < τ.2 ∧ τ.1 (lwS τ).2 = 98
  · have t := eq_true c
    have e : prR τ = rL τ 5 (bL τ 5 (lwS τ) (lwT τ)).1 (bL τ 5 (lwS τ) (lwT τ)).2 := by
      have e5 : bL τ 5 (lwS τ) (lwT τ) = bL τ 4 (ebS τ (lwT τ) (lwS τ)) (ebT τ (lwT τ) (lwS τ)) := (bL_s τ 4 (lwS τ) (lwT τ)).trans (if_pos ⟨c1, c⟩)
      have eR : bR τ (lwS τ) (lwT τ) = bL τ 4 (ebS τ (lwT τ) (lwS τ)) (ebT τ (lwT τ) (lwS τ)) := if_pos c1
      unfold prR
      rw [eR, e5]
    rw [e]
    have e00 : lwT τ 0 = 0 := rfl
    obtain ⟨N2, b1', b2, b3, b4, b5, b6⟩ := k154b (d := d) hO 5 (lwS τ).2 (lwT τ) N1 (by omega) hw2 a1.1 w1 w2 S1
    rw [← s_eq c1] at b1' b2 b3 b4 b5 b6
    by_cases c2 : (bL τ 5 (lwS τ) (lwT τ)).1.1 = 0
    · have e01 : ∀ k (s : Ss) (S : Tw), S 1 = 0 → (bL τ k s S).2 1 = 0 := by
        intro k
        induction k with
        | zero => intro s S h; exact h
        | succ k ih =>
          intro s S h
          rw [bL_s]
          split
          · refine ih _ _ ?_
            unfold ebT
            split
            · exact h
            · rw [upT_n _ _ (by omega), upT_n _ _ (by omega), upT_n _ _ (by omega), upT_n _ _ (by omega)]; exact h
          · exact h
      have e1 := e01 5 (lwS τ) (lwT τ) rfl
      rw [bz_0 c2] at b6
      obtain ⟨N3, q1, q2, q3⟩ := k154r (d := d) hO 5 (bL τ 5 (lwS τ) (lwT τ)).1.2 (bL τ 5 (lwS τ) (lwT τ)).2 N2 (by omega) b5.2 b1'.1 b3 b4 (b2 c2)
      rw [← s_eq c2] at q1 q2 q3
      refine ⟨N3, oG.pre (G1.tr b1'.2.2) q1, q2, fun Q => ?_⟩
      rw [c154]
      simp (disch := omega) only [s154_0, s154_1]
      rw [z4]
      simp (disch := omega) only [s154_25, s154_26, s154_27, s154_30, s154_31, s154_34, s154_37, s154_38, s154_39, s154_40, s154_42, s154_45, s154_48, s154_49, s154_50, s154_53, s154_54, s154_55, z_lt_t, z_lt_f, z_le_t, z_le_f, z_lt0, z_ge0, z_cl, z_in, z_add, z_eq_f, z_ne0, z_00, z_10, z_01, z_11, z_neg1, z_nI_NONE, z_div, z_rem, z_rem2, sw_pu_s, sw_pu_n, true_and, and_true, true_or, or_true, if_true, if_false, not_true_eq_false, not_false_eq_true, a3, h143, t]
      rw [b6, q3]
    · rw [rL_n 5 (fun w => c2 w.1)]
      refine ⟨N2, oG.pre G1 b1', b2, fun Q => ?_⟩
      rw [bz_n c2] at b6 ⊢
      rw [c154]
      simp (disch := omega) only [s154_0, s154_1]
      rw [z4]
      simp (disch := omega) only [s154_25, s154_26, s154_27, s154_30, s154_31, s154_34, s154_37, s154_38, s154_39, s154_40, s154_42, s154_45, s154_48, s154_49, s154_50, s154_53, s154_54, s154_55, z_lt_t, z_lt_f, z_le_t, z_le_f, z_lt0, z_ge0, z_cl, z_in, z_add, z_eq_f, z_ne0, z_00, z_10, z_01, z_11, z_neg1, z_nI_NONE, z_div, z_rem, z_rem2, sw_pu_s, sw_pu_n, true_and, and_true, true_or, or_true, if_true, if_false, not_true_eq_false, not_false_eq_true, a3, h143, t]
      rw [b6]
      simp (disch := omega) only [s154_77, s154_78, s154_81, s154_82, s154_85, s154_88, s154_89, s154_92, s154_93, s154_96, s154_97, s154_100, s154_101, s154_104, s154_105, s154_108, s154_111, s154_112, s154_113, s154_116, s154_119, s154_120, s154_123, s154_124, z_lt_t, z_lt_f, z_le_t, z_le_f, z_lt0, z_ge0, z_cl, z_in, z_add, z_eq_f, z_ne0, z_00, z_10, z_01, z_11, z_neg1, z_nI_NONE, z_div, z_rem, z_rem2, sw_pu_s, sw_pu_n, true_and, and_true, true_or, or_true, if_true, if_false, not_true_eq_false, not_false_eq_true]
  · have t := eq_false c
    have e : prR τ = ((1, (lwS τ).2), ebT τ (lwT τ) (lwS τ)) := by
      have eb : ebS τ (lwT τ) (lwS τ) = (1, (lwS τ).2) := by
        have e98 : tkS τ 98 (lwS τ) = (1, (lwS τ).2) := by unfold tkS; rw [if_pos c1, if_neg c]
        have n1 : (1, (lwS τ).2).1 ≠ 0 := Nat.succ_ne_zero 0
        unfold ebS
        rw [if_neg (show ¬ 4 ≤ lwT τ 0 from fun w => absurd w (by have : lwT τ 0 = 0 := rfl; omega)), e98]
        unfold stS
        rw [nmS_f n1, tkS_f n1, nmS_f n1, tkS_f n1, nmS_f n1, tkS_f n1]
      have n1 : ¬ ((1, (lwS τ).2) : Ss).1 = 0 := Nat.succ_ne_zero 0
      have eR : bR τ (lwS τ) (lwT τ) = ((1, (lwS τ).2), ebT τ (lwT τ) (lwS τ)) := by
        have e0 : bR τ (lwS τ) (lwT τ) = bL τ 4 (ebS τ (lwT τ) (lwS τ)) (ebT τ (lwT τ) (lwS τ)) := if_pos c1
        rw [e0, eb]
        exact bL_n (s := (1, (lwS τ).2)) 4 (fun w => n1 w.1)
      unfold prR
      rw [eR]
      exact rL_n (s := (1, (lwS τ).2)) 5 (fun w => n1 w.1)
    rw [e]
    have f := fN.rf (N := N1).up (j := 14) (x := nI 1) (by omega)
    refine ⟨_, ⟨⟨MTp_f a1.1.1 f, by rw [z_up_j _ _ (by omega)]; exact h13⟩, fun _ => z_up_s _ _ _ _, G1.tr (gN.f f)⟩, fun w => absurd w (Nat.succ_ne_zero 0), fun Q => ?_⟩
    rw [c154]
    simp (disch := omega) only [s154_0, s154_1]
    rw [z4]
    simp (disch := omega) only [s154_25, s154_26, s154_27, s154_30, s154_31, s154_34, s154_37, s154_38, s154_39, s154_40, s154_42, s154_45, s154_48, s154_49, s154_50, s154_53, s154_54, s154_55, c145, s145_0, s145_1, s145_2, s145_5, s145_6, z_lt_t, z_lt_f, z_le_t, z_le_f, z_lt0, z_ge0, z_cl, z_in, z_add, z_eq_f, z_ne0, z_00, z_10, z_01, z_11, z_neg1, z_nI_NONE, z_div, z_rem, z_rem2, sw_pu_s, sw_pu_n, true_and, and_true, true_or, or_true, if_true, if_false, not_true_eq_false, not_false_eq_true, a3, h143, t]
    rfl
end REJ
