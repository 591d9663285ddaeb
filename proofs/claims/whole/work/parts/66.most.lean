/-! the best weddings: all in their order -/
abbrev St : Type := Nat × (Nat → Nat)
def blf (F : Nat → St → St) : Nat → Nat → St → St
  | 0, _, s => F 4 s
  | m + 1, b, s => blf F m (b + 1) (F b s)
theorem blf_0 (F : Nat → St → St) (b : Nat) (s : St) : blf F 0 b s = F 4 s := rfl
theorem blf_s (F : Nat → St → St) (m b : Nat) (s : St) : blf F (m + 1) b s = blf F m (b + 1) (F b s) := rfl
def mf (f : St → (Nat → Nat) → St) (k : Nat) : Nat → Nat → (Nat → Nat) → St → St
  | 0, _, t, s => f s t
  | n + 1, r, t, s => blf (fun b s => mf f k n (r + 1) (upT t r b) s) k 0 s
def cf (f : St → (Nat → Nat) → St) (k : Nat) : Nat → Nat → Nat → (Nat → Nat) → St → St
  | 0, _, _, t, s => f s t
  | n + 1, r, tk, t, s => blf (fun b s => if b = 4 then cf f k n (r + 1) tk (upT t r 4) s else if bit tk b = 1 then s else cf f k n (r + 1) (tk + 2 ^ b) (upT t r b) s) k 0 s
theorem mf_s (f : St → (Nat → Nat) → St) (k n r : Nat) (t : Nat → Nat) (s : St) : mf f k (n + 1) r t s = blf (fun b s => mf f k n (r + 1) (upT t r b) s) k 0 s := rfl
theorem cf_s (f : St → (Nat → Nat) → St) (k n r tk : Nat) (t : Nat → Nat) (s : St) : cf f k (n + 1) r tk t s = blf (fun b s => if b = 4 then cf f k n (r + 1) tk (upT t r 4) s else if bit tk b = 1 then s else cf f k n (r + 1) (tk + 2 ^ b) (upT t r b) s) k 0 s := rfl
theorem blf_c {F G : Nat → St → St} : ∀ m b s, (∀ c s, (b ≤ c ∧ c < b + m) ∨ c = 4 → F c s = G c s) → blf F m b s = blf G m b s := by
  intro m
  induction m with
  | zero => intro b s h; exact h 4 s (Or.inr rfl)
  | succ m ih =>
    intro b s h
    rw [blf_s, blf_s, h b s (Or.inl ⟨by omega, by omega⟩), ih (b + 1) _ (fun c s hc => h c s (by omega))]
theorem blf_id {F : Nat → St → St} : ∀ m b s, (∀ c s, (b ≤ c ∧ c < b + m) ∨ c = 4 → F c s = s) → blf F m b s = s := by
  intro m
  induction m with
  | zero => intro b s h; exact h 4 s (Or.inr rfl)
  | succ m ih =>
    intro b s h
    rw [blf_s, h b s (Or.inl ⟨by omega, by omega⟩), ih (b + 1) _ (fun c s hc => h c s (by omega))]
def agr (r : Nat) (t t' : Nat → Nat) : Prop := ∀ q, q < r → t q = t' q
theorem agr_u {r b : Nat} {t t' : Nat → Nat} (h : agr (r + 1) (upT t r b) t') : agr r t t' ∧ t' r = b := by
  refine ⟨fun q hq => ?_, ?_⟩
  · rw [← h q (by omega), upT_n _ _ (by omega)]
  · rw [← h r (by omega), upT_s]
theorem mf_id {f : St → (Nat → Nat) → St} {k : Nat} : ∀ n r t s, (∀ s t', agr r t t' → f s t' = s) → mf f k n r t s = s := by
  intro n
  induction n with
  | zero => intro r t s h; exact h s t (fun _ _ => rfl)
  | succ n ih =>
    intro r t s h
    rw [mf_s]
    exact blf_id k 0 s (fun c s _ => ih (r + 1) (upT t r c) s (fun s t' ha => h s t' (agr_u ha).1))
def vdF (t : Nat → Nat) : Nat → Nat → Nat → Bool
  | 0, _, _ => true
  | n + 1, r, tk => if t r = 4 then vdF t n (r + 1) tk else if bit tk (t r) = 1 then false else vdF t n (r + 1) (tk + 2 ^ t r)
theorem vdF_s (t : Nat → Nat) (n r tk : Nat) : vdF t (n + 1) r tk = if t r = 4 then vdF t n (r + 1) tk else if bit tk (t r) = 1 then false else vdF t n (r + 1) (tk + 2 ^ t r) := rfl
theorem cf_mf {f : St → (Nat → Nat) → St} {k N : Nat} (hk : k ≤ 4) : ∀ n r tk t s, (∀ t', agr r t t' → vdF t' N 0 0 = vdF t' n r tk) →
    cf f k n r tk t s = mf (fun s t => if vdF t N 0 0 = true then f s t else s) k n r t s := by
  intro n
  induction n with
  | zero =>
    intro r tk t s h
    show f s t = if vdF t N 0 0 = true then f s t else s
    rw [h t (fun _ _ => rfl)]
    rfl
  | succ n ih =>
    intro r tk t s h
    rw [mf_s, cf_s]
    refine blf_c k 0 s (fun c s hc => ?_)
    by_cases c4 : c = 4
    · subst c4
      rw [if_pos rfl]
      refine ih (r + 1) tk (upT t r 4) s (fun t' ha => ?_)
      obtain ⟨a1, a2⟩ := agr_u ha
      rw [h t' a1, vdF_s, if_pos a2]
    · rw [if_neg c4]
      by_cases e : bit tk c = 1
      · rw [if_pos e, mf_id]
        intro s t' ha
        obtain ⟨a1, a2⟩ := agr_u ha
        rw [h t' a1, vdF_s, a2, if_neg c4, if_pos e]
        rfl
      · rw [if_neg e]
        refine ih (r + 1) (tk + 2 ^ c) (upT t r c) s (fun t' ha => ?_)
        obtain ⟨a1, a2⟩ := agr_u ha
        rw [h t' a1, vdF_s, a2, if_neg c4, if_neg e]
/-- what the last one brings about -/
theorem mf_last {f : St → (Nat → Nat) → St} {k : Nat} {P : St → Prop} : ∀ n r t s, (∀ s t', agr r t t' → (∀ q, r ≤ q → q < r + n → t' q = 4) → P (f s t')) → P (mf f k n r t s) := by
  intro n
  induction n with
  | zero => intro r t s h; exact h s t (fun _ _ => rfl) (fun q h1 h2 => by omega)
  | succ n ih =>
    intro r t s h
    rw [mf_s]
    have key : ∀ m b s, P (blf (fun b s => mf f k n (r + 1) (upT t r b) s) m b s) := by
      intro m
      induction m with
      | zero =>
        intro b s
        rw [blf_0]
        refine ih (r + 1) (upT t r 4) s (fun s t' ha h4 => ?_)
        obtain ⟨a1, a2⟩ := agr_u ha
        refine h s t' a1 (fun q h1 h2 => ?_)
        by_cases e : q = r
        · rw [e, a2]
        · exact h4 q (by omega) (by omega)
      | succ m ihm => intro b s; rw [blf_s]; exact ihm (b + 1) _
    exact key k 0 s
/-- what every one keeps -/
theorem mf_keep {f : St → (Nat → Nat) → St} {k : Nat} {P : St → Prop} (hk : k ≤ 4) : ∀ n r t s, (∀ q, q < 4 → t q ≤ 4) → (∀ s t', P s → (∀ q, q < 4 → t' q ≤ 4) → P (f s t')) → P s → P (mf f k n r t s) := by
  intro n
  induction n with
  | zero => intro r t s ht h hp; exact h s t hp ht
  | succ n ih =>
    intro r t s ht h hp
    rw [mf_s]
    have up : ∀ c, c ≤ 4 → ∀ q, q < 4 → upT t r c q ≤ 4 := by
      intro c hc q hq
      by_cases e : q = r
      · subst e; rw [upT_s]; exact hc
      · rw [upT_n _ _ e]; exact ht q hq
    have key : ∀ m b s, b + m ≤ 4 → P s → P (blf (fun b s => mf f k n (r + 1) (upT t r b) s) m b s) := by
      intro m
      induction m with
      | zero => intro b s _ hs; rw [blf_0]; exact ih (r + 1) _ s (up 4 (by omega)) h hs
      | succ m ihm => intro b s hb hs; rw [blf_s]; exact ihm (b + 1) _ (by omega) (ih (r + 1) _ s (up b (by omega)) h hs)
    exact key k 0 s (by omega) hp
def bsB (s j : Nat) : Bool := decide (s / 2 ^ (j / 4) % 2 = 1 ∨ (s + 2 ^ (j / 4) < 16 ∧ ((s + 2 ^ (j / 4)) / 2 ^ (j % 4) % 2 = 1 ∨ (¬ j % 4 = j / 4 ∧ ¬ s / 2 ^ (j % 4) % 2 = 1))))
theorem bsB_t : ∀ s, s < 16 → ∀ j, j < 16 → bsB s j = true := by decide +kernel
theorem bit_s {s b x : Nat} (hs : s < 16) (hb : b < 4) (hx : x < 4) (h : bit s b ≠ 1) : s + 2 ^ b < 16 ∧ (bit (s + 2 ^ b) x ≠ 1 → x ≠ b ∧ bit s x ≠ 1) := by
  have h2 := (bsB_t s hs (4 * b + x) (by omega))
  unfold bsB at h2
  rw [show (4 * b + x) / 4 = b by omega, show (4 * b + x) % 4 = x by omega] at h2
  have h3 := (of_decide_eq_true h2).resolve_left h
  exact ⟨h3.1, fun q => h3.2.resolve_left q⟩
theorem vdF_inj {t : Nat → Nat} : ∀ n r tk, tk < 16 → (∀ q, r ≤ q → q < r + n → t q ≤ 4) → vdF t n r tk = true → (∀ p, r ≤ p → p < r + n → t p ≠ 4 → bit tk (t p) ≠ 1) ∧ ∀ q p, r ≤ q → q < p → p < r + n → t q ≠ 4 → t q ≠ t p := by
  intro n
  induction n with
  | zero => intro r tk _ _ _; exact ⟨fun p h1 h2 => by omega, fun q p h1 h2 h3 => by omega⟩
  | succ n ih =>
    intro r tk htk ht h
    rw [vdF_s] at h
    have h4 := ht r (by omega) (by omega)
    by_cases e : t r = 4
    · rw [if_pos e] at h
      obtain ⟨h1, h2⟩ := ih (r + 1) tk htk (fun q q1 q2 => ht q (by omega) (by omega)) h
      refine ⟨fun p p1 p2 p3 => ?_, fun q p q1 q2 q3 q4 => ?_⟩
      · by_cases c : p = r
        · subst c; exact absurd e p3
        · exact h1 p (by omega) (by omega) p3
      · by_cases c : q = r
        · subst c; exact absurd e q4
        · exact h2 q p (by omega) q2 (by omega) q4
    · rw [if_neg e] at h
      by_cases e2 : bit tk (t r) = 1
      · rw [if_pos e2] at h
        cases h
      · rw [if_neg e2] at h
        obtain ⟨h1, h2⟩ := ih (r + 1) (tk + 2 ^ t r) (bit_s htk (by omega) (x := 0) (by omega) e2).1 (fun q q1 q2 => ht q (by omega) (by omega)) h
        have h5 : ∀ p, r + 1 ≤ p → p < r + (n + 1) → t p ≠ 4 → t p ≠ t r ∧ bit tk (t p) ≠ 1 := fun p p1 p2 p3 => (bit_s htk (show t r < 4 by omega) (x := t p) (by have := ht p (by omega) p2; omega) e2).2 (h1 p p1 (by omega) p3)
        refine ⟨fun p p1 p2 p3 => ?_, fun q p q1 q2 q3 q4 => ?_⟩
        · by_cases c : p = r
          · subst c; exact e2
          · exact (h5 p (by omega) p2 p3).2
        · by_cases c : q = r
          · subst c
            by_cases p4 : t p = 4
            · rw [p4]; exact q4
            · exact fun w => (h5 p (by omega) q3 p4).1 w.symm
          · exact h2 q p (by omega) q2 (by omega) q4
def Wg (T : Tw) (d r b : Nat) : Nat := gdT (al T r b) d
def gD (T : Tw) (d : Nat) (t : Nat → Nat) (r : Nat) : Nat := sm (fun q => if t q = 4 then 0 else Wg T d q (t q)) r
def mD (T : Tw) (t : Nat → Nat) (r : Nat) : Nat := sm (fun q => if T (37 + q) = t q then 0 else 1) r
theorem gD_u (T : Tw) (d : Nat) (t : Nat → Nat) (r b : Nat) : gD T d (upT t r b) (r + 1) = gD T d t r + if b = 4 then 0 else Wg T d r b := by
  show sm _ r + (if upT t r b r = 4 then 0 else Wg T d r (upT t r b r)) = _
  rw [upT_s]
  unfold gD
  rw [sm_cong (f := fun q => if upT t r b q = 4 then 0 else Wg T d q (upT t r b q)) (g := fun q => if t q = 4 then 0 else Wg T d q (t q)) (fun q hq => by rw [upT_n _ _ (by omega)])]
theorem mD_u (T : Tw) (t : Nat → Nat) (r b : Nat) : mD T (upT t r b) (r + 1) = mD T t r + if T (37 + r) = b then 0 else 1 := by
  show sm _ r + (if T (37 + r) = upT t r b r then 0 else 1) = _
  rw [upT_s]
  unfold mD
  rw [sm_cong (f := fun q => if T (37 + q) = upT t r b q then 0 else 1) (g := fun q => if T (37 + q) = t q then 0 else 1) (fun q hq => by rw [upT_n _ _ (by omega)])]
def lf (sp q : Nat) (T : Tw) (d : Nat) (s : St) (t : Nat → Nat) : St :=
  if sp = 0 then (if s.1 < gD T d t (T 1) + 1 then (gD T d t (T 1) + 1, t) else s) else (if q ≤ gD T d t (T 1) ∧ mD T t (T 1) < s.1 then (mD T t (T 1), t) else s)
def nn (sp : Nat) : Nat := if sp = 0 then 0 else 5
def bvC (sp v : Nat) : Int32 := if sp = 0 then (if v = 0 then -5 else nI (v - 1)) else (if v = 5 then -5 else -(nI v))
theorem MIN_T : (-5 : Int32).toInt = -5 := by decide
theorem bv_0 {g v : Nat} (hg : g < 2 ^ 20) (hv : v < 2 ^ 20) : (nI g ≤ bvC 0 v) = (g + 1 ≤ v) := by
  unfold bvC
  rw [if_pos rfl]
  by_cases e : v = 0
  · subst e
    rw [if_pos rfl, eq_iff_iff, Int32.le_iff_toInt_le, MIN_T, nI_toInt (by omega)]
    omega
  · rw [if_neg e, eq_iff_iff, nI_leI (by omega) (by omega)]
    omega
theorem ng_T {m : Nat} (hm : m < 2 ^ 20) : (-(nI m)).toInt = -(m : Int) := by
  rw [Int32.toInt_neg, nI_toInt (by omega)]
  apply Int.bmod_eq_of_le <;> omega
theorem bv_1 {m v : Nat} (hm : m ≤ 4) (hv : v ≤ 5) : (-(nI m) ≤ bvC 1 v) = (v ≤ m) := by
  unfold bvC
  rw [if_neg (by decide)]
  by_cases e : v = 5
  · subst e
    rw [if_pos rfl, eq_iff_iff, Int32.le_iff_toInt_le, MIN_T, ng_T (by omega)]
    omega
  · rw [if_neg e, eq_iff_iff, Int32.le_iff_toInt_le, ng_T (by omega), ng_T (by omega)]
    omega
theorem sm_le2 {f : Nat → Nat} {c : Nat} : ∀ n, (∀ r, r < n → f r ≤ c) → sm f n ≤ c * n := by
  intro n
  induction n with
  | zero => intro _; exact Nat.le_refl _
  | succ n ih =>
    intro h
    have h1 := ih (fun r hr => h r (by omega))
    have h2 := h n (by omega)
    show sm f n + f n ≤ c * (n + 1)
    rw [Nat.mul_succ]
    omega
theorem mD_le (T : Tw) (t : Nat → Nat) (r : Nat) : mD T t r ≤ r := by
  have := sm_le2 (f := fun q => if T (37 + q) = t q then 0 else 1) (c := 1) r (fun q _ => by split <;> omega)
  unfold mD
  omega
theorem Wg_le {T : Tw} (hT : OKT T) {d r b : Nat} (hd : d ≤ 60) (hb : b < T 0) : Wg T d r b ≤ 8640 := by
  have h9 := hT.2.2.1
  have := gdT_le d (al T r b) (WF_al hT.1 (Or.inr hb)) (by rw [al_o _ (by omega)]; omega)
  unfold Wg
  omega
theorem gD_le {T : Tw} (hT : OKT T) {d : Nat} (hd : d ≤ 60) {t : Nat → Nat} (r : Nat) (ht : ∀ q, q < r → t q = 4 ∨ t q < T 0) : gD T d t r ≤ 8640 * r := by
  refine sm_le2 r (fun q hq => ?_)
  split
  · omega
  · exact Wg_le hT hd ((ht q hq).resolve_left (by assumption))
