theorem sm_split (f : Nat → Nat) (a : Nat) : ∀ b, sm f (a + b) = sm f a + sm (fun i => f (a + i)) b := by
  intro b
  induction b with
  | zero => rfl
  | succ b ih =>
    show sm f (a + b) + f (a + b) = sm f a + (sm (fun i => f (a + i)) b + f (a + b))
    rw [ih]
    omega
theorem sm_mul (k : Nat) (f : Nat → Nat) : ∀ n, sm (fun i => k * f i) n = k * sm f n := by
  intro n
  induction n with
  | zero => rfl
  | succ n ih =>
    show sm (fun i => k * f i) n + k * f n = k * (sm f n + f n)
    rw [ih, Nat.mul_add]
theorem bit_hi {n s i : Nat} (hn : n < 4) (hs : s < 2 ^ n) (hi : i < n) : bit (2 ^ n + s) i = bit s i := by
  have : ∀ n, n < 4 → ∀ s, s < 2 ^ n → ∀ i, i < n → (2 ^ n + s) / 2 ^ i % 2 = s / 2 ^ i % 2 := by decide +kernel
  exact this n hn s hs i hi
theorem bit_t1 {n s : Nat} (hn : n < 4) (hs : s < 2 ^ n) : bit (2 ^ n + s) n = 1 ∧ bit s n = 0 := by
  have : ∀ n, n < 4 → ∀ s, s < 2 ^ n → (2 ^ n + s) / 2 ^ n % 2 = 1 ∧ s / 2 ^ n % 2 = 0 := by decide +kernel
  exact this n hn s hs
theorem gbT_hi {T : Tw} {n s : Nat} (hn : n < 4) (hs : s < 2 ^ n) : gbT T (2 ^ n + s) n = gbT T s n := sm_cong (fun r hr => by rw [bit_hi hn hs hr])
theorem wyC_hi {T : Tw} {c n s : Nat} (hn : n < 4) (hs : s < 2 ^ n) : ∀ m, m ≤ n → wyC T (2 ^ n + s) c m = wyC T s c m := by
  intro m
  induction m with
  | zero => intro _; rfl
  | succ m ih =>
    intro hm
    rw [wyC_s, wyC_s, ih (by omega)]
    unfold wyF
    rw [bit_hi hn hs (by omega)]
/-- ways of enough with x ground already -/
def Zc (T : Tw) (q c n x : Nat) : Nat := sm (fun s => if q ≤ x + gbT T s n then wyC T s c n else 0) (2 ^ n)
theorem Zc_s {T : Tw} {q c n : Nat} (hn : n < 4) (x : Nat) : Zc T q c (n + 1) x = if T (37 + n) = 4 then Zc T q c n x else c * Zc T q c n x + (10 - c) * Zc T q c n (x + gnT T n) := by
  unfold Zc
  rw [Nat.pow_succ, show 2 ^ n * 2 = 2 ^ n + 2 ^ n by omega, sm_split]
  have a1 : sm (fun s => if q ≤ x + gbT T s (n + 1) then wyC T s c (n + 1) else 0) (2 ^ n) = sm (fun s => (if T (37 + n) = 4 then 1 else c) * (if q ≤ x + gbT T s n then wyC T s c n else 0)) (2 ^ n) := sm_cong (fun s hs => by
    rw [gbT_s, wyC_s]
    unfold wyF
    rw [(bit_t1 hn hs).2, if_neg (show ¬ ((0 : Nat) = 1) by decide), if_neg (show ¬ ((0 : Nat) = 1) by decide), if_neg (show ¬ ((0 : Nat) = 1) by decide), Nat.add_zero]
    by_cases e : q ≤ x + gbT T s n
    · rw [if_pos e, if_pos e, Nat.mul_comm]
    · rw [if_neg e, if_neg e, Nat.mul_zero])
  have a2 : sm (fun s => if q ≤ x + gbT T (2 ^ n + s) (n + 1) then wyC T (2 ^ n + s) c (n + 1) else 0) (2 ^ n) = sm (fun s => (if T (37 + n) = 4 then 0 else 10 - c) * (if q ≤ x + gnT T n + gbT T s n then wyC T s c n else 0)) (2 ^ n) := sm_cong (fun s hs => by
    rw [gbT_s, wyC_s, gbT_hi hn hs, wyC_hi hn hs n (Nat.le_refl n)]
    unfold wyF
    rw [(bit_t1 hn hs).1, if_pos rfl, if_pos rfl, if_pos rfl, show x + (gbT T s n + gnT T n) = x + gnT T n + gbT T s n by omega]
    by_cases e : q ≤ x + gnT T n + gbT T s n
    · rw [if_pos e, if_pos e, Nat.mul_comm]
    · rw [if_neg e, if_neg e, Nat.mul_zero])
  rw [a1, a2, sm_mul, sm_mul]
  by_cases e : T (37 + n) = 4
  · rw [if_pos e, if_pos e, if_pos e, Nat.one_mul, Nat.zero_mul, Nat.add_zero]
  · rw [if_neg e, if_neg e, if_neg e]
