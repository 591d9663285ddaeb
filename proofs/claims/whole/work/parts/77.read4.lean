section RED
variable {d : Nat} {τ : Tp} {s : Ss} {S : Tw} {M N : sw_Mem} {Q : Option Value → sw_Mem → Prop}
/-- only what is beyond has changed -/
theorem IsV_b (h : IsV M 27 S) {n v1 v2 v3 : Nat} {M' : sw_Mem} (hn : S 1 ≤ n) (hn4 : n < 4) (e : tR n v1 v2 v3 M M') : IsV M' 27 S := by
  obtain ⟨-, ⟨f0, f1, f2, f3, f4⟩, hR, hB⟩ := h
  obtain ⟨q1, -, q5⟩ := e
  have e27 := q1 27 (by omega) (by omega) (by omega) (by omega)
  refine ⟨kd27, ⟨by rw [e27]; exact f0, by rw [e27]; exact f1, by rw [e27]; exact f2, by rw [e27]; exact f3, by rw [e27]; exact f4⟩, fun r hr => ?_, fun b hb => ?_⟩
  · obtain ⟨j1, j2, j3⟩ := q5 r (by omega)
    rw [j1, j2, j3, q1 31 (by omega) (by omega) (by omega) (by omega), q1 32 (by omega) (by omega) (by omega) (by omega)]
    exact hR r hr
  · obtain ⟨j1, j2, j3⟩ := q5 (4 + b) (by omega)
    rw [j1, j2, j3, q1 33 (by omega) (by omega) (by omega) (by omega)]
    exact hB b hb
theorem IsV_k (h : IsV M 27 S) {n : Nat} {x : Int32} (hn : S 1 ≤ n) : IsV (sw_up M 31 n x) 27 S := by
  obtain ⟨-, ⟨f0, f1, f2, f3, f4⟩, hR, hB⟩ := h
  refine ⟨kd27, ⟨by rw [z_up_n _ _ (by omega)]; exact f0, by rw [z_up_n _ _ (by omega)]; exact f1, by rw [z_up_n _ _ (by omega)]; exact f2, by rw [z_up_n _ _ (by omega)]; exact f3, by rw [z_up_n _ _ (by omega)]; exact f4⟩, fun r hr => ?_, fun b hb => ?_⟩
  · rw [z_up_n _ _ (show 27 + 1 ≠ 31 by omega), z_up_n _ _ (show 27 + 2 ≠ 31 by omega), z_up_n _ _ (show 27 + 3 ≠ 31 by omega), z_up_j _ _ (show r ≠ n by omega), z_up_n _ _ (show 27 + 5 ≠ 31 by omega)]
    exact hR r hr
  · rw [z_up_n _ _ (show 27 + 1 ≠ 31 by omega), z_up_n _ _ (show 27 + 2 ≠ 31 by omega), z_up_n _ _ (show 27 + 3 ≠ 31 by omega), z_up_n _ _ (show 27 + 6 ≠ 31 by omega)]
    exact hB b hb
set_option maxHeartbeats 2000000 in
theorem k37 (h : cR τ s M) (hO : OTp τ) (hs : oS τ s) (hf0 : s.1 = 0) (hp : s.2 < τ.2) (hT : cT S M) (hW : WF S) : ∃ M', cR τ (rnS τ S s) M' ∧ cT (rnT τ S s) M' ∧ rC M M' ∧ ∀ Q, sw_Cal (d + 4) 37 [.ref 26] M Q = Q none M' := by
  have w0 := hW.1
  have w1 := hW.2.1
  obtain ⟨hV, hF⟩ := hT
  have g4 := hV.2.1.2.2.2.2
  have g2 := h.2.1
  have hol := hO.1
  have hx := hO.2 s.2 hp
  have h57 := fun d Q => k57 (d := d) (M := M) (Q := Q) h.1 hO (show s.2 < 200 by omega)
  rw [atv_p hp] at h57
  have h29 := fun d Q => k29 (d := d) (M := M) (Q := Q) (show τ.1 s.2 < 256 by omega)
  have hk5 := kOf_le (τ.1 s.2)
  by_cases ck : kOf (τ.1 s.2) = 0
  · have e1 : rnS τ S s = (1, s.2) := if_pos ck
    have e2 : rnT τ S s = S := if_pos ck
    rw [e1, e2]
    refine ⟨stM M (1, s.2), stM_cR h _, ⟨IsV_st27 hV _, fun b hb => by rw [stM_k (by omega)]; exact hF b hb⟩, rC.rf.st _, fun Q => ?_⟩
    rw [stM_f h rfl, c37]
    simp (disch := omega) only [s37_0, s37_1, s37_4, s37_5, s37_8, s37_11, s37_14, s37_15, s37_16, s37_19, s37_20, s37_21, s37_24, s37_25, s37_26, s37_29, s37_32, s37_33, s37_36, s37_37, s37_38, s37_41, s37_42, s37_43, s37_44, s37_47, s37_48, s37_49, s37_52, s37_53, s37_56, s37_59, s37_60, s37_63, s37_66, s37_67, s37_68, s37_69, s37_70, s37_73, s37_76, s37_79, s37_80, s37_82, s37_85, s37_86, s37_89, s37_92, s37_93, s37_96, s37_99, s37_100, s37_103, s37_104, s37_105, s37_107, s37_110, s37_111, s37_114, s37_115, s37_118, s37_119, s37_120, s37_123, z_lt_t, z_lt_f, z_le_t, z_le_f, z_lt0, z_ge0, z_cl, z_in, z_add, z_eq_f, z_ne0, z_00, z_10, z_01, z_11, z_neg1, z_nI_NONE, z_div, z_rem, z_rem2, sw_pu_s, sw_pu_n, true_and, and_true, true_or, or_true, if_true, if_false, not_true_eq_false, not_false_eq_true, g2, h57, h29, ck]
  by_cases c : 4 ≤ S 1
  · have e1 : rnS τ S s = (3, s.2) := by unfold rnS; rw [if_neg ck, if_pos c]
    have e2 : rnT τ S s = S := by unfold rnT; rw [if_neg ck, if_pos c]
    rw [e1, e2]
    refine ⟨stM M (3, s.2), stM_cR h _, ⟨IsV_st27 hV _, fun b hb => by rw [stM_k (by omega)]; exact hF b hb⟩, rC.rf.st _, fun Q => ?_⟩
    rw [stM_f h rfl, c37]
    simp (disch := omega) only [s37_0, s37_1, s37_4, s37_5, s37_8, s37_11, s37_14, s37_15, s37_16, s37_19, s37_20, s37_21, s37_24, s37_25, s37_26, s37_29, s37_32, s37_33, s37_36, s37_37, s37_38, s37_41, s37_42, s37_43, s37_44, s37_47, s37_48, s37_49, s37_52, s37_53, s37_56, s37_59, s37_60, s37_63, s37_66, s37_67, s37_68, s37_69, s37_70, s37_73, s37_76, s37_79, s37_80, s37_82, s37_85, s37_86, s37_89, s37_92, s37_93, s37_96, s37_99, s37_100, s37_103, s37_104, s37_105, s37_107, s37_110, s37_111, s37_114, s37_115, s37_118, s37_119, s37_120, s37_123, z_lt_t, z_lt_f, z_le_t, z_le_f, z_lt0, z_ge0, z_cl, z_in, z_add, z_eq_f, z_ne0, z_00, z_10, z_01, z_11, z_neg1, z_nI_NONE, z_div, z_rem, z_rem2, sw_pu_s, sw_pu_n, true_and, and_true, true_or, or_true, if_true, if_false, not_true_eq_false, not_false_eq_true, g2, h57, h29, g4]
  have e1 : rnS τ S s = tkS τ 59 (btS τ S (tkS τ 44 (stS τ (s.1, s.2 + 1)))) := by unfold rnS; rw [if_neg ck, if_neg c]
  have e2 : rnT τ S s = upT (upT (upT (upT (upT (upT S (21 + S 1) (kOf (τ.1 s.2))) (25 + S 1) (st1 τ (s.1, s.2 + 1))) (29 + S 1) (st2 τ (s.1, s.2 + 1))) (33 + S 1) (st3 τ (s.1, s.2 + 1))) (37 + S 1) (btV τ S (tkS τ 44 (stS τ (s.1, s.2 + 1))))) 1 (S 1 + 1) := by unfold rnT; rw [if_neg ck, if_neg c]
  rw [e1, e2]
  have es : stM M (s.1, s.2 + 1) = sw_up M 26 2 (nI (s.2 + 1)) := stM_p h rfl
  have c0 := cR_up (k := 31) (j := S 1) (x := nI (kOf (τ.1 s.2))) (stM_cR h (s.1, s.2 + 1)) (by omega)
  have o0 : oS τ (s.1, s.2 + 1) := ⟨hs.1, by dsimp only; omega⟩
  have V0 := IsV_k (n := S 1) (x := nI (kOf (τ.1 s.2))) (IsV_st27 hV (s.1, s.2 + 1)) (Nat.le_refl _)
  obtain ⟨M1, b1', b2, b3⟩ := k38 (d := d) c0 hO o0 (st := S 1) (by omega)
  have o1 := stS_ok o0
  have V1 := IsV_b V0 (Nat.le_refl _) (by omega) b2
  have t1 := fun d Q => k40 (d := d) (Q := Q) b1' hO o1 (c := 44) (by omega)
  have c2 := stM_cR b1' (tkS τ 44 (stS τ (s.1, s.2 + 1)))
  have o2 := tkS_ok (c := 44) o1
  have V2 := IsV_st27 V1 (tkS τ 44 (stS τ (s.1, s.2 + 1)))
  have h39 := fun d Q => k39 (d := d) (Q := Q) c2 hO o2 V2 hW
  have c3 := stM_cR c2 (btS τ S (tkS τ 44 (stS τ (s.1, s.2 + 1))))
  have c4 := cR_up (k := 32) (j := S 1) (x := bn (btV τ S (tkS τ 44 (stS τ (s.1, s.2 + 1))))) c3 (by omega)
  have o3 := btS_ok (S := S) o2
  have t4 := fun d Q => k40 (d := d) (Q := Q) c4 hO o3 (c := 59) (by omega)
  have c5 := cR_up (k := 27) (j := 4) (x := nI (S 1 + 1)) (stM_cR c4 (tkS τ 59 (btS τ S (tkS τ 44 (stS τ (s.1, s.2 + 1)))))) (by omega)
  have fr := ((((((((rC.rf (M := M)).st (s.1, s.2 + 1)).up (k := 31) (j := S 1) (x := nI (kOf (τ.1 s.2))) (by omega)).tr (rC.tR b2)).st (tkS τ 44 (stS τ (s.1, s.2 + 1)))).st (btS τ S (tkS τ 44 (stS τ (s.1, s.2 + 1))))).up (k := 32) (j := S 1) (x := bn (btV τ S (tkS τ 44 (stS τ (s.1, s.2 + 1))))) (by omega)).st (tkS τ 59 (btS τ S (tkS τ 44 (stS τ (s.1, s.2 + 1)))))).up (k := 27) (j := 4) (x := nI (S 1 + 1)) (by omega)
  refine ⟨_, c5, ⟨?_, fun b hb => ?_⟩, fr, fun Q => ?_⟩
  · obtain ⟨-, ⟨f0, f1, f2, f3, f4⟩, hR, hB⟩ := hV
    obtain ⟨q1, ⟨q2, q3, q4⟩, q5⟩ := b2
    generalize hs1 : tkS τ 44 (stS τ (s.1, s.2 + 1)) = s1 at *
    generalize hs2 : btS τ S s1 = s2 at *
    generalize hs3 : tkS τ 59 s2 = s3 at *
    generalize hbd : btV τ S s1 = bd at *
    generalize hv1 : st1 τ (s.1, s.2 + 1) = v1 at *
    generalize hv2 : st2 τ (s.1, s.2 + 1) = v2 at *
    generalize hv3 : st3 τ (s.1, s.2 + 1) = v3 at *
    generalize hkk : kOf (τ.1 s.2) = k at *
    generalize hn : S 1 = n at *
    have m27 : ∀ j, j ≠ 4 → sw_up (stM (sw_up (stM (stM M1 s1) s2) 32 n (bn bd)) s3) 27 4 (nI (n + 1)) 27 j = M 27 j := fun j hj => by
      rw [z_up_j _ _ hj, stM_k (by omega), z_up_n _ _ (by omega), stM_k (by omega), stM_k (by omega), q1 27 (by omega) (by omega) (by omega) (by omega), z_up_n _ _ (by omega), stM_k (by omega)]
    have mk : ∀ k, k ≠ 26 → k ≠ 27 → k ≠ 32 → sw_up (stM (sw_up (stM (stM M1 s1) s2) 32 n (bn bd)) s3) 27 4 (nI (n + 1)) k = M1 k := fun k k1 k2 k3 => by
      rw [z_up_n _ _ k2, stM_k k1, z_up_n _ _ k3, stM_k k1, stM_k k1]
    have m32 : sw_up (stM (sw_up (stM (stM M1 s1) s2) 32 n (bn bd)) s3) 27 4 (nI (n + 1)) 32 = sw_up M 32 n (bn bd) 32 := by
      funext j
      rw [z_up_n _ _ (by omega), stM_k (by omega)]
      by_cases c : j = n
      · subst c; rw [z_up_s, z_up_s]
      · rw [z_up_j _ _ c, z_up_j _ _ c, stM_k (by omega), stM_k (by omega), q1 32 (by omega) (by omega) (by omega) (by omega), z_up_n _ _ (by omega), stM_k (by omega)]
    have e1 : upT (upT (upT (upT (upT (upT S (21 + n) k) (25 + n) v1) (29 + n) v2) (33 + n) v3) (37 + n) bd) 1 (n + 1) 1 = n + 1 := upT_s _ _ _
    have e : ∀ i, i = 0 ∨ (2 ≤ i ∧ i < 21) → upT (upT (upT (upT (upT (upT S (21 + n) k) (25 + n) v1) (29 + n) v2) (33 + n) v3) (37 + n) bd) 1 (n + 1) i = S i := fun i hi => by rw [upT_n _ _ (by omega), upT_n _ _ (by omega), upT_n _ _ (by omega), upT_n _ _ (by omega), upT_n _ _ (by omega), upT_n _ _ (by omega)]
    have eo : ∀ i q, q < n → (i = 21 ∨ i = 25 ∨ i = 29 ∨ i = 33 ∨ i = 37) → upT (upT (upT (upT (upT (upT S (21 + n) k) (25 + n) v1) (29 + n) v2) (33 + n) v3) (37 + n) bd) 1 (n + 1) (i + q) = S (i + q) := fun i q hq hi => by rw [upT_n _ _ (by omega), upT_n _ _ (by omega), upT_n _ _ (by omega), upT_n _ _ (by omega), upT_n _ _ (by omega), upT_n _ _ (by omega)]
    refine ⟨kd27, ⟨by rw [m27 _ (by omega), e _ (by omega)]; exact f0, by rw [m27 _ (by omega), e _ (by omega)]; exact f1, by rw [m27 _ (by omega), e _ (by omega)]; exact f2, by rw [m27 _ (by omega), e _ (by omega)]; exact f3, by rw [z_up_s, e1]⟩, fun r hr => ?_, fun b hb => ?_⟩
    · rw [e1] at hr
      rw [mk 28 (by omega) (by omega) (by omega), mk 29 (by omega) (by omega) (by omega), mk 30 (by omega) (by omega) (by omega), mk 31 (by omega) (by omega) (by omega), m32, q1 31 (by omega) (by omega) (by omega) (by omega)]
      by_cases h : r = n
      · subst h
        rw [z_up_s, z_up_s]
        refine ⟨?_, ?_, ?_, ?_, ?_⟩
        · rw [upT_n _ _ (by omega), upT_n _ _ (by omega), upT_n _ _ (by omega), upT_n _ _ (by omega), upT_s]; exact q2
        · rw [upT_n _ _ (by omega), upT_n _ _ (by omega), upT_n _ _ (by omega), upT_s]; exact q3
        · rw [upT_n _ _ (by omega), upT_n _ _ (by omega), upT_s]; exact q4
        · rw [upT_n _ _ (by omega), upT_n _ _ (by omega), upT_n _ _ (by omega), upT_n _ _ (by omega), upT_n _ _ (by omega), upT_s]
        · rw [upT_n _ _ (by omega), upT_s]
      · obtain ⟨j1, j2, j3⟩ := q5 r h
        rw [z_up_j _ _ h, z_up_j _ _ h, stM_k (by omega), j1, j2, j3, z_up_n _ _ (by omega), z_up_n _ _ (by omega), z_up_n _ _ (by omega), stM_k (by omega), stM_k (by omega), stM_k (by omega), eo 21 r (by omega) (by omega), eo 25 r (by omega) (by omega), eo 29 r (by omega) (by omega), eo 33 r (by omega) (by omega), eo 37 r (by omega) (by omega)]
        exact hR r (by omega)
    · rw [e 0 (by omega)] at hb
      obtain ⟨j1, j2, j3⟩ := q5 (4 + b) (by omega)
      rw [mk 28 (by omega) (by omega) (by omega), mk 29 (by omega) (by omega) (by omega), mk 30 (by omega) (by omega) (by omega), mk 33 (by omega) (by omega) (by omega), j1, j2, j3, q1 33 (by omega) (by omega) (by omega) (by omega), z_up_n _ _ (by omega), z_up_n _ _ (by omega), z_up_n _ _ (by omega), z_up_n _ _ (by omega), stM_k (by omega), stM_k (by omega), stM_k (by omega), stM_k (by omega), e (5 + b) (by omega), e (9 + b) (by omega), e (13 + b) (by omega), e (17 + b) (by omega)]
      exact hB b hb
  · rw [z_up_n _ _ (by omega), stM_k (by omega), z_up_n _ _ (by omega), stM_k (by omega), stM_k (by omega), b2.1 33 (by omega) (by omega) (by omega) (by omega), z_up_n _ _ (by omega), stM_k (by omega)]
    exact hF b hb
  · have g4a : stM M (s.1, s.2 + 1) 27 4 = nI (S 1) := by rw [stM_k (by omega)]; exact g4
    have g4b : sw_up (stM M (s.1, s.2 + 1)) 31 (S 1) (nI (kOf (τ.1 s.2))) 27 4 = nI (S 1) := by rw [z_up_n _ _ (by omega)]; exact g4a
    have g4c : stM M1 (tkS τ 44 (stS τ (s.1, s.2 + 1))) 27 4 = nI (S 1) := V2.2.1.2.2.2.2
    have g4d : stM (sw_up (stM (stM M1 (tkS τ 44 (stS τ (s.1, s.2 + 1)))) (btS τ S (tkS τ 44 (stS τ (s.1, s.2 + 1))))) 32 (S 1) (bn (btV τ S (tkS τ 44 (stS τ (s.1, s.2 + 1)))))) (tkS τ 59 (btS τ S (tkS τ 44 (stS τ (s.1, s.2 + 1))))) 27 4 = nI (S 1) := by
      rw [stM_k (by omega), z_up_n _ _ (by omega), stM_k (by omega)]
      exact g4c
    rw [c37]
    simp (disch := omega) only [s37_0, s37_1, s37_4, s37_5, s37_8, s37_11, s37_14, s37_15, s37_16, s37_19, s37_20, s37_21, s37_24, s37_25, s37_26, s37_29, s37_32, s37_33, s37_36, s37_37, s37_38, s37_41, s37_42, s37_43, s37_44, s37_47, s37_48, s37_49, s37_52, s37_53, s37_56, s37_59, s37_60, s37_63, s37_66, s37_67, s37_68, s37_69, s37_70, s37_73, s37_76, s37_79, s37_80, s37_82, s37_85, s37_86, s37_89, s37_92, s37_93, s37_96, s37_99, s37_100, s37_103, s37_104, s37_105, s37_107, s37_110, s37_111, s37_114, s37_115, s37_118, s37_119, s37_120, s37_123, z_lt_t, z_lt_f, z_le_t, z_le_f, z_lt0, z_ge0, z_cl, z_in, z_add, z_eq_f, z_ne0, z_00, z_10, z_01, z_11, z_neg1, z_nI_NONE, z_div, z_rem, z_rem2, sw_pu_s, sw_pu_n, true_and, and_true, true_or, or_true, if_true, if_false, not_true_eq_false, not_false_eq_true, g2, h57, h29, g4, ← es, g4a, g4b, b3, t1, g4c, h39, t4, g4d]
end RED
