def wyM (s c : Nat) : Nat → Nat
  | 0 => 1
  | n + 1 => wyM s c n * (if bit s n = 1 then c else 10 - c)
theorem wyM_s (s c n : Nat) : wyM s c (n + 1) = wyM s c n * (if bit s n = 1 then c else 10 - c) := rfl
def gbM (T : Tw) (s n : Nat) : Nat := sm (fun r => if bit s r = 1 then 0 else gnT T r) n
theorem gbM_s (T : Tw) (s n : Nat) : gbM T s (n + 1) = gbM T s n + (if bit s n = 1 then 0 else gnT T n) := rfl
theorem gbM_hi {T : Tw} {n s : Nat} (hn : n < 4) (hs : s < 2 ^ n) : gbM T (2 ^ n + s) n = gbM T s n := sm_cong (fun r hr => by rw [bit_hi hn hs hr])
theorem wyM_hi {c n s : Nat} (hn : n < 4) (hs : s < 2 ^ n) : ∀ m, m ≤ n → wyM (2 ^ n + s) c m = wyM s c m := by
  intro m
  induction m with
  | zero => intro _; rfl
  | succ m ih =>
    intro hm
    rw [wyM_s, wyM_s, ih (by omega), bit_hi hn hs (by omega)]
def Zm (T : Tw) (q c n x : Nat) : Nat := sm (fun s => if q ≤ x + gbM T s n then wyM s c n else 0) (2 ^ n)
theorem Zm_s {T : Tw} {q c n : Nat} (hn : n < 4) (x : Nat) : Zm T q c (n + 1) x = (10 - c) * Zm T q c n (x + gnT T n) + c * Zm T q c n x := by
  unfold Zm
  rw [Nat.pow_succ, show 2 ^ n * 2 = 2 ^ n + 2 ^ n by omega, sm_split]
  have a1 : sm (fun s => if q ≤ x + gbM T s (n + 1) then wyM s c (n + 1) else 0) (2 ^ n) = sm (fun s => (10 - c) * (if q ≤ x + gnT T n + gbM T s n then wyM s c n else 0)) (2 ^ n) := sm_cong (fun s hs => by
    rw [gbM_s, wyM_s, (bit_t1 hn hs).2, if_neg (show ¬ ((0 : Nat) = 1) by decide), if_neg (show ¬ ((0 : Nat) = 1) by decide), show x + (gbM T s n + gnT T n) = x + gnT T n + gbM T s n by omega]
    by_cases e : q ≤ x + gnT T n + gbM T s n
    · rw [if_pos e, if_pos e, Nat.mul_comm]
    · rw [if_neg e, if_neg e, Nat.mul_zero])
  have a2 : sm (fun s => if q ≤ x + gbM T (2 ^ n + s) (n + 1) then wyM (2 ^ n + s) c (n + 1) else 0) (2 ^ n) = sm (fun s => c * (if q ≤ x + gbM T s n then wyM s c n else 0)) (2 ^ n) := sm_cong (fun s hs => by
    rw [gbM_s, wyM_s, gbM_hi hn hs, wyM_hi hn hs n (Nat.le_refl n), (bit_t1 hn hs).1, if_pos rfl, if_pos rfl, Nat.add_zero]
    by_cases e : q ≤ x + gbM T s n
    · rw [if_pos e, if_pos e, Nat.mul_comm]
    · rw [if_neg e, if_neg e, Nat.mul_zero])
  rw [a1, a2, sm_mul, sm_mul]
def nlW (T : Tw) : Nat → Nat
  | 0 => 1
  | n + 1 => nlW T n * (if T (37 + n) = 4 then 10 else 1)
theorem nlW_s (T : Tw) (n : Nat) : nlW T (n + 1) = nlW T n * (if T (37 + n) = 4 then 10 else 1) := rfl
theorem Zm_Zc {T : Tw} {q c : Nat} (hc : c ≤ 10) : ∀ n, n ≤ 4 → ∀ x, Zm T q c n x = nlW T n * Zc T q c n x := by
  intro n
  induction n with
  | zero => intro _ x; exact (Nat.one_mul _).symm
  | succ n ih =>
    intro hn x
    rw [Zm_s (by omega), Zc_s (by omega), nlW_s, ih (by omega), ih (by omega)]
    by_cases e : T (37 + n) = 4
    · have hg : gnT T n = 0 := by unfold gnT; rw [if_pos e]
      rw [if_pos e, if_pos e, hg, Nat.add_zero, ← Nat.add_mul, show 10 - c + c = 10 by omega, Nat.mul_comm (nlW T n) 10, Nat.mul_assoc]
    · rw [if_neg e, if_neg e, Nat.mul_one, Nat.mul_add, Nat.add_comm, Nat.mul_left_comm c, Nat.mul_left_comm (10 - c)]
theorem nl_al (T : Tw) : ∀ n, nlW T n * alW T n = 10 ^ n := by
  intro n
  induction n with
  | zero => rfl
  | succ n ih =>
    rw [nlW_s, alW_s, Nat.pow_succ, ← ih]
    by_cases e : T (37 + n) = 4
    · rw [if_pos e, if_pos e, Nat.mul_one, Nat.mul_right_comm]
    · rw [if_neg e, if_neg e, Nat.mul_one, Nat.mul_assoc]
