def stS (τ : Tp) (s : Ss) : Ss := nmS τ 0 9 (tkS τ 44 (nmS τ 0 9 (tkS τ 44 (nmS τ 0 9 s))))
def st1 (τ : Tp) (s : Ss) : Nat := nmV τ 0 9 s
def st2 (τ : Tp) (s : Ss) : Nat := nmV τ 0 9 (tkS τ 44 (nmS τ 0 9 s))
def st3 (τ : Tp) (s : Ss) : Nat := nmV τ 0 9 (tkS τ 44 (nmS τ 0 9 (tkS τ 44 (nmS τ 0 9 s))))
theorem stS_ok {τ : Tp} {s : Ss} (h : oS τ s) : oS τ (stS τ s) := nmS_ok (tkS_ok (nmS_ok (tkS_ok (nmS_ok h))))
theorem st_le (τ : Tp) (s : Ss) : st1 τ s ≤ 9 ∧ st2 τ s ≤ 9 ∧ st3 τ s ≤ 9 := ⟨(nmV_le (by omega) _).2, (nmV_le (by omega) _).2, (nmV_le (by omega) _).2⟩
def ebS (τ : Tp) (S : Tw) (s : Ss) : Ss := if 4 ≤ S 0 then (3, s.2) else tkS τ 59 (stS τ (tkS τ 98 s))
def ebT (τ : Tp) (S : Tw) (s : Ss) : Tw := if 4 ≤ S 0 then S else upT (upT (upT (upT S (5 + S 0) (st1 τ (tkS τ 98 s))) (9 + S 0) (st2 τ (tkS τ 98 s))) (13 + S 0) (st3 τ (tkS τ 98 s))) 0 (S 0 + 1)
def kOf (x : Nat) : Nat := if x = 103 then 1 else if x = 102 then 2 else if x = 115 then 3 else if x = 111 then 4 else if x = 119 then 5 else 0
theorem kOf_le (x : Nat) : kOf x ≤ 5 := by
  unfold kOf
  repeat' split
  all_goals omega
def btF (τ : Tp) (S : Tw) (s : Ss) : Prop := (nmS τ 0 9 s).1 = 0 ∧ nmV τ 0 9 s ≠ 9 ∧ (S 0 ≤ nmV τ 0 9 s ∨ onB S (nmV τ 0 9 s) ≠ 4)
def btG (τ : Tp) (S : Tw) (s : Ss) : Prop := (nmS τ 0 9 s).1 = 0 ∧ nmV τ 0 9 s ≠ 9 ∧ nmV τ 0 9 s < S 0 ∧ onB S (nmV τ 0 9 s) = 4
def btS (τ : Tp) (S : Tw) (s : Ss) : Ss := if (nmS τ 0 9 s).1 = 0 ∧ nmV τ 0 9 s ≠ 9 ∧ (S 0 ≤ nmV τ 0 9 s ∨ onB S (nmV τ 0 9 s) ≠ 4) then (2, s.2) else nmS τ 0 9 s
def btV (τ : Tp) (S : Tw) (s : Ss) : Nat := if (nmS τ 0 9 s).1 = 0 ∧ nmV τ 0 9 s ≠ 9 ∧ nmV τ 0 9 s < S 0 ∧ onB S (nmV τ 0 9 s) = 4 then nmV τ 0 9 s else 4
theorem btS_ok {τ : Tp} {S : Tw} {s : Ss} (h : oS τ s) : oS τ (btS τ S s) := by
  unfold btS
  split
  · exact ⟨by dsimp only; omega, h.2⟩
  · exact nmS_ok h
def rnS (τ : Tp) (S : Tw) (s : Ss) : Ss := if kOf (τ.1 s.2) = 0 then (1, s.2) else if 4 ≤ S 1 then (3, s.2) else tkS τ 59 (btS τ S (tkS τ 44 (stS τ (s.1, s.2 + 1))))
def rnT (τ : Tp) (S : Tw) (s : Ss) : Tw := if kOf (τ.1 s.2) = 0 then S else if 4 ≤ S 1 then S else
  upT (upT (upT (upT (upT (upT S (21 + S 1) (kOf (τ.1 s.2))) (25 + S 1) (st1 τ (s.1, s.2 + 1))) (29 + S 1) (st2 τ (s.1, s.2 + 1))) (33 + S 1) (st3 τ (s.1, s.2 + 1))) (37 + S 1) (btV τ S (tkS τ 44 (stS τ (s.1, s.2 + 1))))) 1 (S 1 + 1)
def fl0 (S : Tw) : Prop := ∀ b, b < 4 → S (17 + b) = 0
theorem WF_bd {τ : Tp} {S : Tw} {s : Ss} (hW : WF S) (hf : fl0 S) : WF (ebT τ S s) ∧ fl0 (ebT τ S s) := by
  unfold ebT
  by_cases c : 4 ≤ S 0
  · rw [if_pos c]; exact ⟨hW, hf⟩
  · rw [if_neg c]
    have hl := st_le τ (tkS τ 98 s)
    generalize st1 τ (tkS τ 98 s) = v1 at *
    generalize st2 τ (tkS τ 98 s) = v2 at *
    generalize st3 τ (tkS τ 98 s) = v3 at *
    obtain ⟨w0, w1, w2, w3, w4, wr, wb, wi⟩ := hW
    generalize hn : S 0 = n at *
    have e : ∀ i, (1 ≤ i ∧ i < 5) ∨ 17 ≤ i → upT (upT (upT (upT S (5 + n) v1) (9 + n) v2) (13 + n) v3) 0 (n + 1) i = S i := fun i hi => by rw [upT_n _ _ (by omega), upT_n _ _ (by omega), upT_n _ _ (by omega), upT_n _ _ (by omega)]
    have e0 : upT (upT (upT (upT S (5 + n) v1) (9 + n) v2) (13 + n) v3) 0 (n + 1) 0 = n + 1 := upT_s _ _ _
    refine ⟨⟨by rw [e0]; omega, by rw [e _ (by omega)]; exact w1, by rw [e _ (by omega)]; exact w2, by rw [e _ (by omega)]; exact w3, by rw [e _ (by omega)]; exact w4, fun q hq => ?_, fun b hb => ?_, fun q hq p hp => ?_⟩, fun b hb => by rw [e _ (by omega)]; exact hf b hb⟩
    · rw [e _ (by omega)] at hq
      obtain ⟨y1, y2, y3, y4, y5, y6⟩ := wr q hq
      rw [e (21 + q) (by omega), e (25 + q) (by omega), e (29 + q) (by omega), e (33 + q) (by omega), e (37 + q) (by omega), e0]
      exact ⟨y1, y2, y3, y4, y5, by omega⟩
    · rw [e0] at hb
      by_cases h : b = n
      · subst h
        rw [upT_n _ _ (by omega), upT_n _ _ (by omega), upT_n _ _ (by omega), upT_s, upT_n _ _ (by omega), upT_n _ _ (by omega), upT_s, upT_n _ _ (by omega), upT_s]
        exact hl
      · have := wb b (by omega)
        rw [upT_n _ _ (by omega), upT_n _ _ (by omega), upT_n _ _ (by omega), upT_n _ _ (by omega), upT_n _ _ (by omega), upT_n _ _ (by omega), upT_n _ _ (by omega), upT_n _ _ (by omega), upT_n _ _ (by omega), upT_n _ _ (by omega), upT_n _ _ (by omega), upT_n _ _ (by omega)]
        exact this
    · rw [e _ (by omega)] at hq hp
      rw [e (37 + q) (by omega), e (37 + p) (by omega)]
      exact wi q hq p hp
theorem WF_rn {τ : Tp} {S : Tw} {s : Ss} (hW : WF S) (hf : fl0 S) : WF (rnT τ S s) ∧ fl0 (rnT τ S s) ∧ rnT τ S s 0 = S 0 ∧ rnT τ S s 2 = S 2 := by
  unfold rnT
  by_cases ck : kOf (τ.1 s.2) = 0
  · rw [if_pos ck]; exact ⟨hW, hf, rfl, rfl⟩
  rw [if_neg ck]
  by_cases c : 4 ≤ S 1
  · rw [if_pos c]; exact ⟨hW, hf, rfl, rfl⟩
  · rw [if_neg c]
    have hl := st_le τ (s.1, s.2 + 1)
    have hk := kOf_le (τ.1 s.2)
    have hb : btV τ S (tkS τ 44 (stS τ (s.1, s.2 + 1))) = 4 ∨ (btV τ S (tkS τ 44 (stS τ (s.1, s.2 + 1))) < S 0 ∧ onB S (btV τ S (tkS τ 44 (stS τ (s.1, s.2 + 1)))) = 4) := by
      unfold btV
      split
      · rename_i h
        exact Or.inr ⟨h.2.2.1, h.2.2.2⟩
      · exact Or.inl rfl
    generalize st1 τ (s.1, s.2 + 1) = v1 at *
    generalize st2 τ (s.1, s.2 + 1) = v2 at *
    generalize st3 τ (s.1, s.2 + 1) = v3 at *
    generalize btV τ S (tkS τ 44 (stS τ (s.1, s.2 + 1))) = bd at *
    generalize kOf (τ.1 s.2) = k at *
    obtain ⟨w0, w1, w2, w3, w4, wr, wb, wi⟩ := hW
    have hno : ∀ q, q < S 1 → bd ≠ 4 → S (37 + q) ≠ bd := fun q hq h4 => onB_4 w1 (hb.resolve_left h4).2 q hq
    generalize hn : S 1 = n at *
    have e : ∀ i, i = 0 ∨ (2 ≤ i ∧ i < 21) → upT (upT (upT (upT (upT (upT S (21 + n) k) (25 + n) v1) (29 + n) v2) (33 + n) v3) (37 + n) bd) 1 (n + 1) i = S i := fun i hi => by rw [upT_n _ _ (by omega), upT_n _ _ (by omega), upT_n _ _ (by omega), upT_n _ _ (by omega), upT_n _ _ (by omega), upT_n _ _ (by omega)]
    have e1 : upT (upT (upT (upT (upT (upT S (21 + n) k) (25 + n) v1) (29 + n) v2) (33 + n) v3) (37 + n) bd) 1 (n + 1) 1 = n + 1 := upT_s _ _ _
    have eo : ∀ i q, q < n → (i = 21 ∨ i = 25 ∨ i = 29 ∨ i = 33 ∨ i = 37) → upT (upT (upT (upT (upT (upT S (21 + n) k) (25 + n) v1) (29 + n) v2) (33 + n) v3) (37 + n) bd) 1 (n + 1) (i + q) = S (i + q) := fun i q hq hi => by rw [upT_n _ _ (by omega), upT_n _ _ (by omega), upT_n _ _ (by omega), upT_n _ _ (by omega), upT_n _ _ (by omega), upT_n _ _ (by omega)]
    have en : upT (upT (upT (upT (upT (upT S (21 + n) k) (25 + n) v1) (29 + n) v2) (33 + n) v3) (37 + n) bd) 1 (n + 1) (37 + n) = bd := by rw [upT_n _ _ (by omega), upT_s]
    refine ⟨⟨by rw [e _ (by omega)]; exact w0, by rw [e1]; omega, by rw [e _ (by omega)]; exact w2, by rw [e _ (by omega)]; exact w3, by rw [e _ (by omega)]; exact w4, fun q hq => ?_, fun b hb => ?_, fun q hq p hp h h4 => ?_⟩, fun b hb => by rw [e _ (by omega)]; exact hf b hb, e 0 (by omega), e 2 (by omega)⟩
    · rw [e1] at hq
      rw [e 0 (by omega)]
      by_cases h : q = n
      · subst h
        rw [en]
        refine ⟨?_, ?_, ?_, ?_, ?_, by omega⟩
        · rw [upT_n _ _ (by omega), upT_n _ _ (by omega), upT_n _ _ (by omega), upT_n _ _ (by omega), upT_n _ _ (by omega), upT_s]; exact hk
        · rw [upT_n _ _ (by omega), upT_n _ _ (by omega), upT_n _ _ (by omega), upT_n _ _ (by omega), upT_n _ _ (by omega), upT_s]; omega
        · rw [upT_n _ _ (by omega), upT_n _ _ (by omega), upT_n _ _ (by omega), upT_n _ _ (by omega), upT_s]; exact hl.1
        · rw [upT_n _ _ (by omega), upT_n _ _ (by omega), upT_n _ _ (by omega), upT_s]; exact hl.2.1
        · rw [upT_n _ _ (by omega), upT_n _ _ (by omega), upT_s]; exact hl.2.2
      · have := wr q (by omega)
        rw [eo 21 q (by omega) (by omega), eo 25 q (by omega) (by omega), eo 29 q (by omega) (by omega), eo 33 q (by omega) (by omega), eo 37 q (by omega) (by omega)]
        exact this
    · rw [e 0 (by omega)] at hb
      rw [e (5 + b) (by omega), e (9 + b) (by omega), e (13 + b) (by omega)]
      exact wb b hb
    · rw [e1] at hq hp
      by_cases h1 : q = n
      · by_cases h2 : p = n
        · rw [h1, h2]
        · subst h1
          rw [en] at h h4
          rw [eo 37 p (by omega) (by omega)] at h
          exact absurd h.symm (hno p (by omega) h4)
      · rw [eo 37 q (by omega) (by omega)] at h h4
        by_cases h2 : p = n
        · subst h2
          rw [en] at h
          exact absurd h (hno q (by omega) (by omega))
        · rw [eo 37 p (by omega) (by omega)] at h
          exact wi q (by omega) p (by omega) h h4
section REB
variable {d : Nat} {τ : Tp} {s : Ss} {S : Tw} {M N : sw_Mem} {Q : Option Value → sw_Mem → Prop}
def rC (M M' : sw_Mem) : Prop := ∀ k, k < 26 ∨ 34 ≤ k → M' k = M k
def tR (st v1 v2 v3 : Nat) (M M' : sw_Mem) : Prop := (∀ k, k ≠ 26 → k ≠ 28 → k ≠ 29 → k ≠ 30 → M' k = M k) ∧ (M' 28 st = nI v1 ∧ M' 29 st = nI v2 ∧ M' 30 st = nI v3) ∧ ∀ j, j ≠ st → M' 28 j = M 28 j ∧ M' 29 j = M 29 j ∧ M' 30 j = M 30 j
theorem cR_up {k j : Nat} {x : Int32} (h : cR τ s M) (hk : 27 ≤ k) : cR τ s (sw_up M k j x) := ⟨CTp_c h.1 (fun q _ _ => z_up_n _ _ (by omega)), by rw [z_up_n _ _ (by omega)]; exact h.2.1, by rw [z_up_n _ _ (by omega)]; exact h.2.2⟩
theorem k38 (h : cR τ s M) (hO : OTp τ) (hs : oS τ s) {st : Nat} (hst : st < 8) : ∃ M', cR τ (stS τ s) M' ∧ tR st (st1 τ s) (st2 τ s) (st3 τ s) M M' ∧ ∀ Q, sw_Cal (d + 3) 38 [.ref 26, .int (nI st)] M Q = Q none M' := by
  have n1 := fun d Q => k41 (d := d) (Q := Q) h hO hs (lo := 0) (hi := 9) (by omega) (by omega)
  have c1 := cR_up (k := 28) (j := st) (x := nI (st1 τ s)) (stM_cR h (nmS τ 0 9 s)) (by omega)
  have o1 := nmS_ok (lo := 0) (hi := 9) hs
  have t1 := fun d Q => k40 (d := d) (Q := Q) c1 hO o1 (c := 44) (by omega)
  have c2 := stM_cR c1 (tkS τ 44 (nmS τ 0 9 s))
  have o2 := tkS_ok (c := 44) o1
  have n2 := fun d Q => k41 (d := d) (Q := Q) c2 hO o2 (lo := 0) (hi := 9) (by omega) (by omega)
  have c3 := cR_up (k := 29) (j := st) (x := nI (st2 τ s)) (stM_cR c2 (nmS τ 0 9 (tkS τ 44 (nmS τ 0 9 s)))) (by omega)
  have o3 := nmS_ok (lo := 0) (hi := 9) o2
  have t3 := fun d Q => k40 (d := d) (Q := Q) c3 hO o3 (c := 44) (by omega)
  have c4 := stM_cR c3 (tkS τ 44 (nmS τ 0 9 (tkS τ 44 (nmS τ 0 9 s))))
  have o4 := tkS_ok (c := 44) o3
  have n4 := fun d Q => k41 (d := d) (Q := Q) c4 hO o4 (lo := 0) (hi := 9) (by omega) (by omega)
  have c5 := cR_up (k := 30) (j := st) (x := nI (st3 τ s)) (stM_cR c4 (nmS τ 0 9 (tkS τ 44 (nmS τ 0 9 (tkS τ 44 (nmS τ 0 9 s)))))) (by omega)
  have r1 : nmV τ 0 9 s = st1 τ s := rfl
  have r2 : nmV τ 0 9 (tkS τ 44 (nmS τ 0 9 s)) = st2 τ s := rfl
  have r3 : nmV τ 0 9 (tkS τ 44 (nmS τ 0 9 (tkS τ 44 (nmS τ 0 9 s)))) = st3 τ s := rfl
  rw [r1] at n1
  rw [r2] at n2
  rw [r3] at n4
  refine ⟨_, c5, ⟨fun k k1 k2 k3 k4 => ?_, ⟨?_, ?_, ?_⟩, fun j hj => ⟨?_, ?_, ?_⟩⟩, fun Q => ?_⟩
  · rw [z_up_n _ _ k4, stM_k k1, stM_k k1, z_up_n _ _ k3, stM_k k1, stM_k k1, z_up_n _ _ k2, stM_k k1]
  · rw [z_up_n _ _ (by omega), stM_k (by omega), stM_k (by omega), z_up_n _ _ (by omega), stM_k (by omega), stM_k (by omega), z_up_s]
  · rw [z_up_n _ _ (by omega), stM_k (by omega), stM_k (by omega), z_up_s]
  · rw [z_up_s]
  · rw [z_up_n _ _ (by omega), stM_k (by omega), stM_k (by omega), z_up_n _ _ (by omega), stM_k (by omega), stM_k (by omega), z_up_j _ _ hj, stM_k (by omega)]
  · rw [z_up_n _ _ (by omega), stM_k (by omega), stM_k (by omega), z_up_j _ _ hj, stM_k (by omega), stM_k (by omega), z_up_n _ _ (by omega), stM_k (by omega)]
  · rw [z_up_j _ _ hj, stM_k (by omega), stM_k (by omega), z_up_n _ _ (by omega), stM_k (by omega), stM_k (by omega), z_up_n _ _ (by omega), stM_k (by omega)]
  · rw [c38]
    simp (disch := omega) only [s38_0, s38_1, s38_4, s38_7, s38_8, s38_9, s38_10, s38_12, s38_15, s38_16, s38_17, s38_19, s38_22, s38_23, s38_26, s38_29, s38_30, s38_31, s38_32, s38_34, s38_37, s38_38, s38_39, s38_41, s38_44, s38_45, s38_48, s38_51, s38_52, s38_53, s38_54, s38_56, s38_59, s38_60, z_lt_t, z_lt_f, z_le_t, z_le_f, z_lt0, z_ge0, z_cl, z_in, z_add, z_eq_f, z_ne0, z_00, z_10, z_01, z_11, z_neg1, z_nI_NONE, z_div, z_rem, z_rem2, sw_pu_s, sw_pu_n, true_and, and_true, true_or, or_true, if_true, if_false, not_true_eq_false, not_false_eq_true, n1, t1, n2, t3, n4]
end REB
