def bL (τ : Tp) : Nat → Ss → Tw → Ss × Tw
  | 0, s, S => (s, S)
  | k + 1, s, S => if s.1 = 0 ∧ s.2 < τ.2 ∧ τ.1 s.2 = 98 then bL τ k (ebS τ S s) (ebT τ S s) else (s, S)
theorem bL_s (τ : Tp) (k : Nat) (s : Ss) (S : Tw) : bL τ (k + 1) s S = if s.1 = 0 ∧ s.2 < τ.2 ∧ τ.1 s.2 = 98 then bL τ k (ebS τ S s) (ebT τ S s) else (s, S) := rfl
theorem bL_n {τ : Tp} (k : Nat) {s : Ss} {S : Tw} (h : ¬ (s.1 = 0 ∧ s.2 < τ.2 ∧ τ.1 s.2 = 98)) : bL τ k s S = (s, S) := by
  cases k with
  | zero => rfl
  | succ k => exact if_neg h
def rL (τ : Tp) : Nat → Ss → Tw → Ss × Tw
  | 0, s, S => (s, S)
  | k + 1, s, S => if s.1 = 0 ∧ s.2 < τ.2 then rL τ k (rnS τ S s) (rnT τ S s) else (s, S)
theorem rL_s (τ : Tp) (k : Nat) (s : Ss) (S : Tw) : rL τ (k + 1) s S = if s.1 = 0 ∧ s.2 < τ.2 then rL τ k (rnS τ S s) (rnT τ S s) else (s, S) := rfl
theorem rL_n {τ : Tp} (k : Nat) {s : Ss} {S : Tw} (h : ¬ (s.1 = 0 ∧ s.2 < τ.2)) : rL τ k s S = (s, S) := by
  cases k with
  | zero => rfl
  | succ k => exact if_neg h
def bR (τ : Tp) (s : Ss) (S : Tw) : Ss × Tw := if s.1 = 0 then bL τ 4 (ebS τ S s) (ebT τ S s) else (s, S)
def lwS (τ : Tp) : Ss := tkS τ 59 (nmS τ 0 9 (tkS τ 44 (nmS τ 1 9 (tkS τ 109 (0, 0)))))
def lwT (τ : Tp) : Tw := upT (upT (fun _ => 0) 2 (nmV τ 1 9 (tkS τ 109 (0, 0)))) 3 (nmV τ 0 9 (tkS τ 44 (nmS τ 1 9 (tkS τ 109 (0, 0)))))
def prR (τ : Tp) : Ss × Tw := rL τ 5 (bR τ (lwS τ) (lwT τ)).1 (bR τ (lwS τ) (lwT τ)).2
theorem ebS_ok {τ : Tp} {S : Tw} {s : Ss} (h : oS τ s) : oS τ (ebS τ S s) := by
  unfold ebS
  split
  · exact ⟨by dsimp only; omega, h.2⟩
  · exact tkS_ok (stS_ok (tkS_ok h))
theorem rnS_ok {τ : Tp} {S : Tw} {s : Ss} (h : oS τ s) (hp : s.2 < τ.2) : oS τ (rnS τ S s) := by
  unfold rnS
  split
  · exact ⟨by dsimp only; omega, h.2⟩
  · split
    · exact ⟨by dsimp only; omega, h.2⟩
    · exact tkS_ok (btS_ok (tkS_ok (stS_ok ⟨h.1, by dsimp only; omega⟩)))
section REC
variable {d : Nat} {τ : Tp} {s : Ss} {S : Tw} {M N : sw_Mem} {Q : Option Value → sw_Mem → Prop}
theorem kd27 : sw_kd 27 = 6 := kd_v.2.2.1
def cT (S : Tw) (M : sw_Mem) : Prop := IsV M 27 S ∧ ∀ b, b < 4 → M 33 b = nI 0
theorem IsV_st27 (h : IsV M 27 S) (s' : Ss) : IsV (stM M s') 27 S := IsV_c h (fun k _ _ => stM_k (by omega))
theorem rC.st {M' : sw_Mem} (h : rC M M') (s' : Ss) : rC M (stM M' s') := fun k hk => (stM_k (by omega)).trans (h k hk)
theorem rC.up {M' : sw_Mem} {k j : Nat} {x : Int32} (h : rC M M') (hk : 26 ≤ k ∧ k < 34) : rC M (sw_up M' k j x) := fun q hq => (z_up_n _ _ (by omega)).trans (h q hq)
theorem rC.tr {M1 M2 : sw_Mem} (h : rC M M1) (h2 : rC M1 M2) : rC M M2 := fun k hk => (h2 k hk).trans (h k hk)
theorem rC.rf : rC M M := fun _ _ => rfl
theorem rC.tR {M' : sw_Mem} {st v1 v2 v3 : Nat} (h : tR st v1 v2 v3 M M') : rC M M' := fun k hk => h.1 k (by omega) (by omega) (by omega) (by omega)
theorem k36 (h : cR τ s M) (hO : OTp τ) (hs : oS τ s) (hT : cT S M) (hW : WF S) (hf : fl0 S) : ∃ M', cR τ (ebS τ S s) M' ∧ cT (ebT τ S s) M' ∧ rC M M' ∧ ∀ Q, sw_Cal (d + 4) 36 [.ref 26] M Q = Q none M' := by
  have w0 := hW.1
  have w1 := hW.2.1
  obtain ⟨hV, hF⟩ := hT
  have g3 := hV.2.1.2.2.2.1
  by_cases c : 4 ≤ S 0
  · have e1 : ebS τ S s = (3, s.2) := if_pos c
    have e2 : ebT τ S s = S := if_pos c
    rw [e1, e2]
    refine ⟨stM M (3, s.2), stM_cR h _, ⟨IsV_st27 hV _, fun b hb => by rw [stM_k (by omega)]; exact hF b hb⟩, rC.rf.st _, fun Q => ?_⟩
    rw [stM_f h rfl, c36]
    simp (disch := omega) only [s36_0, s36_1, s36_4, s36_7, s36_8, s36_11, s36_12, s36_13, s36_16, s36_17, s36_18, s36_20, s36_23, s36_24, s36_25, s36_26, s36_29, s36_32, s36_33, s36_36, s36_37, s36_39, s36_42, s36_43, s36_46, s36_47, s36_50, s36_51, s36_52, s36_55, z_lt_t, z_lt_f, z_le_t, z_le_f, z_lt0, z_ge0, z_cl, z_in, z_add, z_eq_f, z_ne0, z_00, z_10, z_01, z_11, z_neg1, z_nI_NONE, z_div, z_rem, z_rem2, sw_pu_s, sw_pu_n, true_and, and_true, true_or, or_true, if_true, if_false, not_true_eq_false, not_false_eq_true, g3]
  · have e1 : ebS τ S s = tkS τ 59 (stS τ (tkS τ 98 s)) := if_neg c
    have e2 : ebT τ S s = upT (upT (upT (upT S (5 + S 0) (st1 τ (tkS τ 98 s))) (9 + S 0) (st2 τ (tkS τ 98 s))) (13 + S 0) (st3 τ (tkS τ 98 s))) 0 (S 0 + 1) := if_neg c
    have t1 := fun d Q => k40 (d := d) (Q := Q) h hO hs (c := 98) (by omega)
    have c1 := stM_cR h (tkS τ 98 s)
    have o1 := tkS_ok (c := 98) hs
    obtain ⟨M1, b1', b2, b3⟩ := k38 (d := d) c1 hO o1 (st := 4 + S 0) (by omega)
    have o2 := stS_ok o1
    have t2 := fun d Q => k40 (d := d) (Q := Q) b1' hO o2 (c := 59) (by omega)
    have c3 := stM_cR b1' (tkS τ 59 (stS τ (tkS τ 98 s)))
    have g31 : M1 27 3 = nI (S 0) := by rw [b2.1 27 (by omega) (by omega) (by omega) (by omega), stM_k (by omega)]; exact g3
    rw [e1, e2]
    refine ⟨sw_up (stM M1 (tkS τ 59 (stS τ (tkS τ 98 s)))) 27 3 (nI (S 0 + 1)), cR_up c3 (by omega), ⟨?_, fun b hb => ?_⟩, (((rC.rf.st _).tr (rC.tR b2)).st _).up (by omega), fun Q => ?_⟩
    · obtain ⟨-, ⟨f0, f1, f2, f3, f4⟩, hR, hB⟩ := hV
      obtain ⟨q1, ⟨q2, q3, q4⟩, q5⟩ := b2
      have n27 : ∀ j, j ≠ 3 → sw_up (stM M1 (tkS τ 59 (stS τ (tkS τ 98 s)))) 27 3 (nI (S 0 + 1)) 27 j = M 27 j := fun j hj => by rw [z_up_j _ _ hj, stM_k (by omega), q1 27 (by omega) (by omega) (by omega) (by omega), stM_k (by omega)]
      have nk : ∀ k, k ≠ 26 → k ≠ 27 → k ≠ 28 → k ≠ 29 → k ≠ 30 → sw_up (stM M1 (tkS τ 59 (stS τ (tkS τ 98 s)))) 27 3 (nI (S 0 + 1)) k = M k := fun k k1 k2 k3 k4 k5 => by rw [z_up_n _ _ k2, stM_k k1, q1 k k1 k3 k4 k5, stM_k k1]
      have nm : ∀ k, k ≠ 26 → k ≠ 27 → sw_up (stM M1 (tkS τ 59 (stS τ (tkS τ 98 s)))) 27 3 (nI (S 0 + 1)) k = M1 k := fun k k1 k2 => by rw [z_up_n _ _ k2, stM_k k1]
      have e0 : upT (upT (upT (upT S (5 + S 0) (st1 τ (tkS τ 98 s))) (9 + S 0) (st2 τ (tkS τ 98 s))) (13 + S 0) (st3 τ (tkS τ 98 s))) 0 (S 0 + 1) 0 = S 0 + 1 := upT_s _ _ _
      have eo : ∀ i, (1 ≤ i ∧ i < 5) ∨ 17 ≤ i → upT (upT (upT (upT S (5 + S 0) (st1 τ (tkS τ 98 s))) (9 + S 0) (st2 τ (tkS τ 98 s))) (13 + S 0) (st3 τ (tkS τ 98 s))) 0 (S 0 + 1) i = S i := fun i hi => by rw [upT_n _ _ (by omega), upT_n _ _ (by omega), upT_n _ _ (by omega), upT_n _ _ (by omega)]
      refine ⟨kd27, ⟨by rw [n27 _ (by omega), eo _ (by omega)]; exact f0, by rw [n27 _ (by omega), eo _ (by omega)]; exact f1, by rw [n27 _ (by omega), eo _ (by omega)]; exact f2, by rw [z_up_s, e0], by rw [n27 _ (by omega), eo _ (by omega)]; exact f4⟩, fun r hr => ?_, fun b hb => ?_⟩
      · rw [eo _ (by omega)] at hr
        obtain ⟨r1, r2, r3, r4, r5⟩ := hR r hr
        obtain ⟨j1, j2, j3⟩ := q5 r (by omega)
        rw [nm 28 (by omega) (by omega), nm 29 (by omega) (by omega), nm 30 (by omega) (by omega), nk 31 (by omega) (by omega) (by omega) (by omega) (by omega), nk 32 (by omega) (by omega) (by omega) (by omega) (by omega), j1, j2, j3, stM_k (by omega), stM_k (by omega), stM_k (by omega), eo (25 + r) (by omega), eo (29 + r) (by omega), eo (33 + r) (by omega), eo (21 + r) (by omega), eo (37 + r) (by omega)]
        exact ⟨r1, r2, r3, r4, r5⟩
      · rw [e0] at hb
        rw [nm 28 (by omega) (by omega), nm 29 (by omega) (by omega), nm 30 (by omega) (by omega), nk 33 (by omega) (by omega) (by omega) (by omega) (by omega), eo (17 + b) (by omega), hf b (by omega)]
        by_cases e : b = S 0
        · subst e
          rw [upT_n _ _ (by omega), upT_n _ _ (by omega), upT_n _ _ (by omega), upT_s, upT_n _ _ (by omega), upT_n _ _ (by omega), upT_s, upT_n _ _ (by omega), upT_s]
          exact ⟨q2, q3, q4, hF _ (by omega)⟩
        · obtain ⟨y1, y2, y3, y4⟩ := hB b (by omega)
          obtain ⟨j1, j2, j3⟩ := q5 (4 + b) (by omega)
          rw [j1, j2, j3, stM_k (by omega), stM_k (by omega), stM_k (by omega), upT_n _ _ (by omega), upT_n _ _ (by omega), upT_n _ _ (by omega), upT_n _ _ (by omega), upT_n _ _ (by omega), upT_n _ _ (by omega), upT_n _ _ (by omega), upT_n _ _ (by omega), upT_n _ _ (by omega), upT_n _ _ (by omega), upT_n _ _ (by omega), upT_n _ _ (by omega)]
          exact ⟨y1, y2, y3, hF b (by omega)⟩
    · rw [z_up_n _ _ (by omega), stM_k (by omega), b2.1 33 (by omega) (by omega) (by omega) (by omega), stM_k (by omega)]
      exact hF b hb
    · have g3a : stM M (tkS τ 98 s) 27 3 = nI (S 0) := by rw [stM_k (by omega)]; exact g3
      have g3b : stM M1 (tkS τ 59 (stS τ (tkS τ 98 s))) 27 3 = nI (S 0) := by rw [stM_k (by omega)]; exact g31
      rw [c36]
      simp (disch := omega) only [s36_0, s36_1, s36_4, s36_7, s36_8, s36_11, s36_12, s36_13, s36_16, s36_17, s36_18, s36_20, s36_23, s36_24, s36_25, s36_26, s36_29, s36_32, s36_33, s36_36, s36_37, s36_39, s36_42, s36_43, s36_46, s36_47, s36_50, s36_51, s36_52, s36_55, z_lt_t, z_lt_f, z_le_t, z_le_f, z_lt0, z_ge0, z_cl, z_in, z_add, z_eq_f, z_ne0, z_00, z_10, z_01, z_11, z_neg1, z_nI_NONE, z_div, z_rem, z_rem2, sw_pu_s, sw_pu_n, true_and, and_true, true_or, or_true, if_true, if_false, not_true_eq_false, not_false_eq_true, g3, t1, g3a, b3, t2, g3b]
theorem stM_2 (M : sw_Mem) (s' : Ss) (x y : Int32) : sw_up (sw_up (stM M s') 26 2 x) 26 3 y = sw_up (sw_up M 26 2 x) 26 3 y := by
  funext k j
  unfold stM
  by_cases c : k = 26
  · subst c
    by_cases c3 : j = 3
    · subst c3; rw [z_up_s, z_up_s]
    · rw [z_up_j _ _ c3, z_up_j _ _ c3]
      by_cases c2 : j = 2
      · subst c2; rw [z_up_s, z_up_s]
      · rw [z_up_j _ _ c2, z_up_j _ _ c2, z_up_j _ _ c3, z_up_j _ _ c2]
  · rw [z_up_n _ _ c, z_up_n _ _ c, z_up_n _ _ c, z_up_n _ _ c, z_up_n _ _ c, z_up_n _ _ c]
theorem k39 (h : cR τ s M) (hO : OTp τ) (hs : oS τ s) (hV : IsV M 27 S) (hW : WF S) : sw_Cal (d + 3) 39 [.ref 26] M Q = Q (some (.int (bn (btV τ S s)))) (stM M (btS τ S s)) := by
  have w0 := hW.1
  have n1 := fun d Q => k41 (d := d) (Q := Q) h hO hs (lo := 0) (hi := 9) (by omega) (by omega)
  have hv := (nmV_le (τ := τ) (lo := 0) (hi := 9) (by omega) s).2
  have c1 := stM_cR h (nmS τ 0 9 s)
  have o1 := nmS_ok (lo := 0) (hi := 9) hs
  have hV1 := IsV_st27 hV (nmS τ 0 9 s)
  have g2 := h.2.1
  have g3 := c1.2.2
  have ho1 := o1.1
  have ho2 := hs.2
  have hol := hO.1
  unfold btV btS
  rw [c39]
  by_cases a : (nmS τ 0 9 s).1 = 0
  · by_cases b : nmV τ 0 9 s = 9
    · rw [if_neg (fun w => w.2.1 b), if_neg (fun w => w.2.1 b), bn_4]
      rw [a] at g3
      simp (disch := omega) only [s39_0, s39_1, s39_4, s39_5, s39_6, s39_7, s39_9, s39_12, s39_13, s39_14, s39_17, s39_20, s39_21, s39_23, s39_26, s39_28, s39_29, s39_30, s39_33, s39_34, s39_37, s39_40, s39_41, s39_44, s39_45, s39_48, s39_50, s39_53, s39_54, s39_55, s39_58, s39_59, s39_60, s39_63, s39_65, s39_66, s39_67, z_lt_t, z_lt_f, z_le_t, z_le_f, z_lt0, z_ge0, z_cl, z_in, z_add, z_eq_f, z_ne0, z_00, z_10, z_01, z_11, z_neg1, z_nI_NONE, z_div, z_rem, z_rem2, sw_pu_s, sw_pu_n, true_and, and_true, true_or, or_true, if_true, if_false, not_true_eq_false, not_false_eq_true, g2, n1, g3, b]
    · have h64 := fun d Q => k64 (d := d) (Q := Q) hV1 hW (nI (nmV τ 0 9 s))
      rw [a] at g3
      by_cases c : nmV τ 0 9 s < S 0
      · have h66 := fun d Q => k66 (d := d) (Q := Q) hV1 hW (show nmV τ 0 9 s < 4 by omega)
        have hl := onB_le hW.2.1 (nmV τ 0 9 s)
        by_cases e : onB S (nmV τ 0 9 s) = 4
        · rw [if_pos ⟨a, b, c, e⟩, if_neg (fun w => by have := w.2.2; omega), bn_n (by omega)]
          rw [e, bn_4] at h66
          simp (disch := omega) only [s39_0, s39_1, s39_4, s39_5, s39_6, s39_7, s39_9, s39_12, s39_13, s39_14, s39_17, s39_20, s39_21, s39_23, s39_26, s39_28, s39_29, s39_30, s39_33, s39_34, s39_37, s39_40, s39_41, s39_44, s39_45, s39_48, s39_50, s39_53, s39_54, s39_55, s39_58, s39_59, s39_60, s39_63, s39_65, s39_66, s39_67, z_lt_t, z_lt_f, z_le_t, z_le_f, z_lt0, z_ge0, z_cl, z_in, z_add, z_eq_f, z_ne0, z_00, z_10, z_01, z_11, z_neg1, z_nI_NONE, z_div, z_rem, z_rem2, sw_pu_s, sw_pu_n, true_and, and_true, true_or, or_true, if_true, if_false, not_true_eq_false, not_false_eq_true, g2, n1, g3, h64, z_ibt, h66]
        · rw [if_neg (fun w => e w.2.2.2), if_pos ⟨a, b, Or.inr e⟩, bn_4]
          rw [bn_n e] at h66
          have es : stM M (2, s.2) = sw_up (sw_up M 26 2 (nI s.2)) 26 3 (nI 2) := rfl
          simp (disch := omega) only [s39_0, s39_1, s39_4, s39_5, s39_6, s39_7, s39_9, s39_12, s39_13, s39_14, s39_17, s39_20, s39_21, s39_23, s39_26, s39_28, s39_29, s39_30, s39_33, s39_34, s39_37, s39_40, s39_41, s39_44, s39_45, s39_48, s39_50, s39_53, s39_54, s39_55, s39_58, s39_59, s39_60, s39_63, s39_65, s39_66, s39_67, z_lt_t, z_lt_f, z_le_t, z_le_f, z_lt0, z_ge0, z_cl, z_in, z_add, z_eq_f, z_ne0, z_00, z_10, z_01, z_11, z_neg1, z_nI_NONE, z_div, z_rem, z_rem2, sw_pu_s, sw_pu_n, true_and, and_true, true_or, or_true, if_true, if_false, not_true_eq_false, not_false_eq_true, g2, n1, g3, h64, z_ibt, h66, stM_2, es]
      · rw [if_neg (fun w => c w.2.2.1), if_pos ⟨a, b, Or.inl (by omega)⟩, bn_4]
        have es : stM M (2, s.2) = sw_up (sw_up M 26 2 (nI s.2)) 26 3 (nI 2) := rfl
        simp (disch := omega) only [s39_0, s39_1, s39_4, s39_5, s39_6, s39_7, s39_9, s39_12, s39_13, s39_14, s39_17, s39_20, s39_21, s39_23, s39_26, s39_28, s39_29, s39_30, s39_33, s39_34, s39_37, s39_40, s39_41, s39_44, s39_45, s39_48, s39_50, s39_53, s39_54, s39_55, s39_58, s39_59, s39_60, s39_63, s39_65, s39_66, s39_67, z_lt_t, z_lt_f, z_le_t, z_le_f, z_lt0, z_ge0, z_cl, z_in, z_add, z_eq_f, z_ne0, z_00, z_10, z_01, z_11, z_neg1, z_nI_NONE, z_div, z_rem, z_rem2, sw_pu_s, sw_pu_n, true_and, and_true, true_or, or_true, if_true, if_false, not_true_eq_false, not_false_eq_true, g2, n1, g3, h64, z_ibf, stM_2, es]
  · rw [if_neg (fun w => a w.1), if_neg (fun w => a w.1), bn_4]
    simp (disch := omega) only [s39_0, s39_1, s39_4, s39_5, s39_6, s39_7, s39_9, s39_12, s39_13, s39_14, s39_17, s39_20, s39_21, s39_23, s39_26, s39_28, s39_29, s39_30, s39_33, s39_34, s39_37, s39_40, s39_41, s39_44, s39_45, s39_48, s39_50, s39_53, s39_54, s39_55, s39_58, s39_59, s39_60, s39_63, s39_65, s39_66, s39_67, z_lt_t, z_lt_f, z_le_t, z_le_f, z_lt0, z_ge0, z_cl, z_in, z_add, z_eq_f, z_ne0, z_00, z_10, z_01, z_11, z_neg1, z_nI_NONE, z_div, z_rem, z_rem2, sw_pu_s, sw_pu_n, true_and, and_true, true_or, or_true, if_true, if_false, not_true_eq_false, not_false_eq_true, g2, n1, g3]
theorem k29 {x : Nat} (hx : x < 256) : sw_Cal (d + 1) 29 [.int (nI x)] M Q = Q (some (.int (nI (kOf x)))) M := by
  rw [c29]
  unfold kOf
  by_cases e1 : x = 103
  · subst e1; rw [if_pos rfl]; simp (disch := omega) only [s29_0, s29_1, s29_52, s29_53, s29_54, s29_55, s29_56, s29_57, s29_58, s29_59, s29_60, s29_61, s29_62, s29_63, z_TI, z_pk_s, z_pk_n, ↓if_pos, ↓if_neg]
  rw [if_neg e1]
  by_cases e2 : x = 102
  · subst e2; rw [if_pos rfl]; simp (disch := omega) only [s29_0, s29_1, s29_52, s29_53, s29_54, s29_55, s29_56, s29_57, s29_58, s29_59, s29_60, s29_61, s29_62, s29_63, z_TI, z_pk_s, z_pk_n, ↓if_pos, ↓if_neg]
  rw [if_neg e2]
  by_cases e3 : x = 115
  · subst e3; rw [if_pos rfl]; simp (disch := omega) only [s29_0, s29_1, s29_52, s29_53, s29_54, s29_55, s29_56, s29_57, s29_58, s29_59, s29_60, s29_61, s29_62, s29_63, z_TI, z_pk_s, z_pk_n, ↓if_pos, ↓if_neg]
  rw [if_neg e3]
  by_cases e4 : x = 111
  · subst e4; rw [if_pos rfl]; simp (disch := omega) only [s29_0, s29_1, s29_52, s29_53, s29_54, s29_55, s29_56, s29_57, s29_58, s29_59, s29_60, s29_61, s29_62, s29_63, z_TI, z_pk_s, z_pk_n, ↓if_pos, ↓if_neg]
  rw [if_neg e4]
  by_cases e5 : x = 119
  · subst e5; rw [if_pos rfl]; simp (disch := omega) only [s29_0, s29_1, s29_52, s29_53, s29_54, s29_55, s29_56, s29_57, s29_58, s29_59, s29_60, s29_61, s29_62, s29_63, z_TI, z_pk_s, z_pk_n, ↓if_pos, ↓if_neg]
  rw [if_neg e5]
  simp (disch := omega) only [s29_0, s29_1, s29_52, s29_53, s29_54, s29_55, s29_56, s29_57, s29_58, s29_59, s29_60, s29_61, s29_62, s29_63, z_TI, z_pk_s, z_pk_n, ↓if_pos, ↓if_neg]
end REC
