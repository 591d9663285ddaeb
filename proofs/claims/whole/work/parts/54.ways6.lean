theorem wyM_sum {c : Nat} (hc : c ≤ 10) : ∀ n, n ≤ 4 → sm (fun s => wyM s c n) (2 ^ n) = 10 ^ n := by
  intro n
  induction n with
  | zero => intro _; rfl
  | succ n ih =>
    intro hn
    rw [Nat.pow_succ, show 2 ^ n * 2 = 2 ^ n + 2 ^ n by omega, sm_split]
    have a1 : sm (fun s => wyM s c (n + 1)) (2 ^ n) = sm (fun s => (10 - c) * wyM s c n) (2 ^ n) := sm_cong (fun s hs => by
      rw [wyM_s, (bit_t1 (by omega) hs).2, if_neg (show ¬ ((0 : Nat) = 1) by decide), Nat.mul_comm])
    have a2 : sm (fun s => wyM (2 ^ n + s) c (n + 1)) (2 ^ n) = sm (fun s => c * wyM s c n) (2 ^ n) := sm_cong (fun s hs => by
      rw [wyM_s, wyM_hi (by omega) hs n (Nat.le_refl n), (bit_t1 (by omega) hs).1, if_pos rfl, Nat.mul_comm])
    rw [a1, a2, sm_mul, sm_mul, ih (by omega), ← Nat.add_mul, show 10 - c + c = 10 by omega, Nat.pow_succ, Nat.mul_comm]
section WYV
variable {d : Nat} {M : sw_Mem} {T : Tw} {Q : Option Value → sw_Mem → Prop}
theorem k20 (hV : IsV M 34 T) (hW : WF T) {q c : Nat} (hq : q ≤ 999) (hc : c ≤ 10) : sw_Cal (d + 5) 20 [.ref 82, .ref 34, .int (nI q), .int (nI c)] M Q = Q (some (.int (nI (Zc T q c (T 1) 0)))) M := by
  have := k20L (d := d) (Q := Q) hV hW hq hc (2 ^ T 1) 0 (by omega)
  have e : sm (enF T q c) (2 ^ T 1) = Zc T q c (T 1) 0 := by
    unfold Zc
    exact sm_cong (fun s _ => by unfold enF; rw [Nat.zero_add])
  rw [e] at this
  rw [c20]
  simp (disch := omega) only [s20_0, s20_1, s20_3, s20_4]
  exact this
end WYV
