/-! the whole state: what the class's cells and the model's cells hold -/
abbrev Rw : Type := (Nat → Nat) × (Nat → Nat) × (Nat → Nat → Int32)
abbrev Tp : Type := (Nat → Nat) × Nat
abbrev Ps : Type := (Nat → Tw) × Nat
abbrev Tc : Type := (Nat → Int32) × Nat
/-- a size: 0 missing, else one more than how many -/
def szv (n : Nat) : Int32 := if n = 0 then (-1) else nI (n - 1)
theorem szv_0 : szv 0 = -1 := rfl
theorem szv_s (n : Nat) : szv (n + 1) = nI n := if_neg (Nat.succ_ne_zero n)
def kvT : List Nat := [1, 0, 0, 0, 0, 0]
def CRw (ρ : Rw) (M : sw_Mem) : Prop := ∀ r, r < 8 → M 22 r = nI (ρ.1 r) ∧ M 23 r = szv (ρ.2.1 r) ∧ ∀ i, i < 40 → M (14 + r) i = ρ.2.2 r i
def MRw (ρ : Rw) (M : sw_Mem) : Prop := ∀ r, r < 8 → M 3 r = nI (ρ.1 r) ∧ M 4 r = szv (ρ.2.1 r) ∧ ∀ i, i < 40 → M 5 (40 * r + i) = ρ.2.2 r i
def ORw (ρ : Rw) : Prop := ∀ r, r < 8 → ρ.1 r ≤ 2 ∧ ρ.2.1 r ≤ 41
def CTp (τ : Tp) (M : sw_Mem) : Prop := M 24 1 = nI τ.2 ∧ ∀ i, i < τ.2 → M 25 i = nI (τ.1 i)
def MTp (τ : Tp) (M : sw_Mem) : Prop := M 0 8 = nI τ.2 ∧ ∀ i, i < τ.2 → M 6 i = nI (τ.1 i)
def OTp (τ : Tp) : Prop := τ.2 ≤ 100 ∧ ∀ i, i < τ.2 → τ.1 i ≤ 255
def CTc (θ : Tc) (M : sw_Mem) : Prop := M 107 1 = nI θ.2 ∧ ∀ i, i < θ.2 → M 108 i = θ.1 i
def MTc (θ : Tc) (M : sw_Mem) : Prop := M 0 12 = nI θ.2 ∧ ∀ i, i < θ.2 → M 7 i = θ.1 i
/-- a page of the acts -/
def IsPg (M : sw_Mem) (a : Nat) (P : Tw) : Prop := (∀ r, r < P 1 → M a r = nI (P (29 + r)) ∧ M a (8 + r) = bn (P (37 + r))) ∧ (∀ b, b < P 0 → M a (4 + b) = nI (P (9 + b)) ∧ M a (12 + b) = nI (P (17 + b))) ∧ M a 16 = nI (P 4)
def CPs (π : Ps) (M : sw_Mem) : Prop := M 56 2 = nI π.2 ∧ ∃ nx, nx < 24 ∧ M 56 1 = nI nx ∧ ∀ i, i < π.2 → IsPg M (58 + (nx + 24 - π.2 + i) % 24) (π.1 i)
def MPs (π : Ps) (M : sw_Mem) : Prop := M 0 2 = nI π.2 ∧ ∀ i, i < π.2 → IsM M (41 + 41 * i) (π.1 i)
def CIm (I : Nat → Tw) (M : sw_Mem) : Prop := IsV M 42 (I 0) ∧ IsV M 49 (I 1)
def is1 (n : Nat) : Int32 := if 0 < n then nI 1 else nI 0
def MIm (I : Nat → Tw) (M : sw_Mem) : Prop := IsM M 1025 (I 0) ∧ IsM M 1066 (I 1) ∧ M 2 0 = is1 (I 0 0) ∧ M 2 1 = is1 (I 1 0)
def OKT (T : Tw) : Prop := WF T ∧ FB T (144 * T 4) ∧ T 4 ≤ 999 ∧ (0 < T 0 → 0 < T 2) ∧ (T 0 = 0 → T 1 = 0)
/-- what no act changes -/
def Sta (P T : Tw) : Prop := P 0 = T 0 ∧ P 1 = T 1 ∧ P 2 = T 2 ∧ P 3 = T 3 ∧ (∀ r, r < T 1 → P (21 + r) = T (21 + r) ∧ P (25 + r) = T (25 + r) ∧ P (33 + r) = T (33 + r)) ∧ ∀ b, b < T 0 → P (5 + b) = T (5 + b) ∧ P (13 + b) = T (13 + b)
def OPs (T : Tw) (π : Ps) : Prop := π.2 ≤ 24 ∧ ∀ i, i < π.2 → OKT (π.1 i) ∧ Sta (π.1 i) T
def CKn (M : sw_Mem) : Prop := (M 109 0 = -1 ∧ M 109 1 = nI 0 ∧ M 109 2 = nI 1 ∧ M 109 3 = nI 1 ∧ M 109 4 = nI 0 ∧ M 109 5 = nI 4) ∧ (M 110 0 = nI 10 ∧ M 110 1 = nI 11 ∧ M 110 2 = nI 12 ∧ M 110 3 = nI 0 ∧ M 110 4 = nI 13 ∧ M 110 5 = nI 14) ∧ (M 111 0 = nI 20 ∧ M 111 1 = nI 21 ∧ M 111 2 = nI 24 ∧ M 111 3 = nI 22 ∧ M 111 4 = nI 23 ∧ M 111 5 = nI 0)
def RC (T : Tw) (I : Nat → Tw) (π : Ps) (ρ : Rw) (τ : Tp) (ft sv : Int32) (θ : Tc) (M : sw_Mem) : Prop :=
  IsV M 34 T ∧ CIm I M ∧ CPs π M ∧ CRw ρ M ∧ CTp τ M ∧ M 11 8 = ft ∧ M 11 9 = sv ∧ CTc θ M ∧ CKn M
def RM (T : Tw) (I : Nat → Tw) (π : Ps) (ρ : Rw) (τ : Tp) (ft sv : Int32) (θ : Tc) (M : sw_Mem) : Prop :=
  (IsM M 0 T ∧ M 0 1 = is1 (T 0)) ∧ MIm I M ∧ MPs π M ∧ MRw ρ M ∧ MTp τ M ∧ M 0 9 = ft ∧ M 0 10 = sv ∧ MTc θ M
def OIm (T : Tw) (I : Nat → Tw) : Prop := (OKT (I 0) ∧ OKT (I 1)) ∧ (0 < I 0 0 ∨ 0 < I 1 0 → 0 < T 0)
theorem OIm_T {T T' : Tw} {I : Nat → Tw} (h : OIm T I) (e : T' 0 = T 0) : OIm T' I := ⟨h.1, fun q => by rw [e]; exact h.2 q⟩
def OK (T : Tw) (I : Nat → Tw) (π : Ps) (ρ : Rw) (τ : Tp) (θ : Tc) : Prop := OKT T ∧ OIm T I ∧ OPs T π ∧ ORw ρ ∧ OTp τ ∧ θ.2 ≤ 16
section FRA
variable {M M' : sw_Mem} {T : Tw} {I : Nat → Tw} {π : Ps} {ρ : Rw} {τ : Tp} {ft sv : Int32} {θ : Tc}
theorem IsV_c {v : Nat} (h : IsV M v T) (e : ∀ k, v ≤ k → k < v + 7 → M' k = M k) : IsV M' v T := by
  have e0 := e v (by omega) (by omega)
  have e1 := e (v + 1) (by omega) (by omega)
  have e2 := e (v + 2) (by omega) (by omega)
  have e3 := e (v + 3) (by omega) (by omega)
  have e4 := e (v + 4) (by omega) (by omega)
  have e5 := e (v + 5) (by omega) (by omega)
  have e6 := e (v + 6) (by omega) (by omega)
  unfold IsV at h ⊢
  rw [e0, e1, e2, e3, e4, e5, e6]
  exact h
theorem CIm_c (h : CIm I M) (e : ∀ k, 42 ≤ k → k < 56 → M' k = M k) : CIm I M' := ⟨IsV_c h.1 (fun k h1 h2 => e k h1 (by omega)), IsV_c h.2 (fun k h1 h2 => e k (by omega) (by omega))⟩
theorem IsPg_c {a : Nat} {P : Tw} (h : IsPg M a P) (e : M' a = M a) : IsPg M' a P := by
  unfold IsPg at h ⊢
  rw [e]
  exact h
theorem CPs_c (h : CPs π M) (e : ∀ k, 56 ≤ k → k < 82 → M' k = M k) : CPs π M' := by
  obtain ⟨h1, nx, h2, h3, h4⟩ := h
  refine ⟨by rw [e 56 (by omega) (by omega)]; exact h1, nx, h2, by rw [e 56 (by omega) (by omega)]; exact h3, fun i hi => ?_⟩
  have := Nat.mod_lt (nx + 24 - π.2 + i) (show 0 < 24 by omega)
  exact IsPg_c (h4 i hi) (e _ (by omega) (by omega))
theorem CRw_c (h : CRw ρ M) (e : ∀ k, 14 ≤ k → k < 24 → M' k = M k) : CRw ρ M' := by
  intro r hr
  rw [e 22 (by omega) (by omega), e 23 (by omega) (by omega), e (14 + r) (by omega) (by omega)]
  exact h r hr
theorem CTp_c (h : CTp τ M) (e : ∀ k, 24 ≤ k → k < 26 → M' k = M k) : CTp τ M' := by
  unfold CTp at h ⊢
  rw [e 24 (by omega) (by omega), e 25 (by omega) (by omega)]
  exact h
theorem CTc_c (h : CTc θ M) (e : ∀ k, 107 ≤ k → k < 109 → M' k = M k) : CTc θ M' := by
  unfold CTc at h ⊢
  rw [e 107 (by omega) (by omega), e 108 (by omega) (by omega)]
  exact h
theorem CKn_c (h : CKn M) (e : ∀ k, 109 ≤ k → k < 112 → M' k = M k) : CKn M' := by
  unfold CKn at h ⊢
  rw [e 109 (by omega) (by omega), e 110 (by omega) (by omega), e 111 (by omega) (by omega)]
  exact h
def eqC (M M' : sw_Mem) : Prop := ∀ k, (11 ≤ k ∧ k ≤ 25) ∨ (34 ≤ k ∧ k ≤ 81) ∨ 107 ≤ k → M' k = M k
theorem RC_c (h : RC T I π ρ τ ft sv θ M) (e : eqC M M') : RC T I π ρ τ ft sv θ M' := by
  obtain ⟨h1, h2, h3, h4, h5, h6, h7, h8, h9⟩ := h
  refine ⟨IsV_c h1 (fun k _ _ => e k (by omega)), CIm_c h2 (fun k _ _ => e k (by omega)), CPs_c h3 (fun k _ _ => e k (by omega)), CRw_c h4 (fun k _ _ => e k (by omega)), CTp_c h5 (fun k _ _ => e k (by omega)), ?_, ?_, CTc_c h8 (fun k _ _ => e k (by omega)), CKn_c h9 (fun k _ _ => e k (by omega))⟩
  · rw [e 11 (by omega)]; exact h6
  · rw [e 11 (by omega)]; exact h7
def eqM (M M' : sw_Mem) : Prop := (∀ j, j ≤ 12 → M' 0 j = M 0 j) ∧ (∀ j, j < 1107 → M' 1 j = M 1 j) ∧ ∀ k, 2 ≤ k → k ≤ 7 → M' k = M k
theorem IsM_c {B : Nat} (h : IsM M B T) (e : ∀ j, B ≤ j → j < B + 41 → M' 1 j = M 1 j) : IsM M' B T := fun i hi => by rw [e _ (by omega) (by omega)]; exact h i hi
theorem MRw_c (h : MRw ρ M) (e : ∀ k, 3 ≤ k → k ≤ 5 → M' k = M k) : MRw ρ M' := by
  intro r hr
  rw [e 3 (by omega) (by omega), e 4 (by omega) (by omega), e 5 (by omega) (by omega)]
  exact h r hr
theorem MPs_c (ho : π.2 ≤ 24) (h : MPs π M) (e0 : M' 0 2 = M 0 2) (e1 : ∀ j, 41 ≤ j → j < 1025 → M' 1 j = M 1 j) : MPs π M' := ⟨by rw [e0]; exact h.1, fun i hi => IsM_c (h.2 i hi) (fun j h1 h2 => e1 j (by omega) (by omega))⟩
theorem MIm_c (h : MIm I M) (e1 : ∀ j, 1025 ≤ j → j < 1107 → M' 1 j = M 1 j) (e2 : M' 2 = M 2) : MIm I M' := by
  obtain ⟨h1, h2, h3, h4⟩ := h
  exact ⟨IsM_c h1 (fun j _ _ => e1 j (by omega) (by omega)), IsM_c h2 (fun j _ _ => e1 j (by omega) (by omega)), by rw [e2]; exact h3, by rw [e2]; exact h4⟩
theorem RM_c (ho : π.2 ≤ 24) (h : RM T I π ρ τ ft sv θ M) (e : eqM M M') : RM T I π ρ τ ft sv θ M' := by
  obtain ⟨⟨h1, h1'⟩, h2, h3, h4, ⟨h5, h5'⟩, h6, h7, ⟨h8, h8'⟩⟩ := h
  obtain ⟨e0, e1, e2⟩ := e
  refine ⟨⟨IsM_c h1 (fun j _ _ => e1 j (by omega)), by rw [e0 1 (by omega)]; exact h1'⟩, MIm_c h2 (fun j _ _ => e1 j (by omega)) (e2 2 (by omega) (by omega)), MPs_c ho h3 (e0 2 (by omega)) (fun j _ _ => e1 j (by omega)), MRw_c h4 (fun k _ _ => e2 k (by omega) (by omega)), ⟨by rw [e0 8 (by omega)]; exact h5, by rw [e2 6 (by omega) (by omega)]; exact h5'⟩, by rw [e0 9 (by omega)]; exact h6, by rw [e0 10 (by omega)]; exact h7, ⟨by rw [e0 12 (by omega)]; exact h8, by rw [e2 7 (by omega) (by omega)]; exact h8'⟩⟩
/-- the class's calls leave the model's cells; the model's the class's -/
def noM (M M' : sw_Mem) : Prop := ∀ k, k < 11 ∨ 109 ≤ k → M' k = M k
def noC (M M' : sw_Mem) : Prop := ∀ k, 11 ≤ k → M' k = M k
theorem noM.rf : noM M M := fun _ _ => rfl
theorem noC.rf : noC M M := fun _ _ => rfl
theorem noM.tr {M2 : sw_Mem} (h : noM M M') (h2 : noM M' M2) : noM M M2 := fun k hk => (h2 k hk).trans (h k hk)
theorem noC.tr {M2 : sw_Mem} (h : noC M M') (h2 : noC M' M2) : noC M M2 := fun k hk => (h2 k hk).trans (h k hk)
theorem noM.up {a j : Nat} {x : Int32} (h : noM M M') (ha : 11 ≤ a ∧ a < 109) : noM M (sw_up M' a j x) := fun k hk => (z_up_n _ _ (by omega)).trans (h k hk)
theorem noM.set {a : Nat} {f : Nat → Int32} (h : noM M M') (ha : 11 ≤ a ∧ a < 109) : noM M (sw_set M' a f) := fun k hk => (z_set_n _ _ (by omega)).trans (h k hk)
theorem noC.up {a j : Nat} {x : Int32} (h : noC M M') (ha : a < 11) : noC M (sw_up M' a j x) := fun k hk => (z_up_n _ _ (by omega)).trans (h k hk)
theorem noC.set {a : Nat} {f : Nat → Int32} (h : noC M M') (ha : a < 11) : noC M (sw_set M' a f) := fun k hk => (z_set_n _ _ (by omega)).trans (h k hk)
theorem noM.off {v : Nat} (h : Off M M' v) (hv : 11 ≤ v ∧ v + 7 ≤ 109) : noM M M' := fun k hk => h k (by omega)
theorem noC.ofm {B : Nat} (h : OfM M M' B) : noC M M' := fun k hk => h.1 k (by omega)
theorem RC_sv (h : RC T I π ρ τ ft sv θ M) (w : Int32) : RC T I π ρ τ ft w θ (sw_up M 11 9 w) := by
  obtain ⟨h1, h2, h3, h4, h5, h6, h7, h8, h9⟩ := h
  exact ⟨IsV_c h1 (fun k _ _ => z_up_n _ _ (by omega)), CIm_c h2 (fun k _ _ => z_up_n _ _ (by omega)), CPs_c h3 (fun k _ _ => z_up_n _ _ (by omega)), CRw_c h4 (fun k _ _ => z_up_n _ _ (by omega)), CTp_c h5 (fun k _ _ => z_up_n _ _ (by omega)), (z_up_j _ _ (by omega)).trans h6, z_up_s _ _ _ _, CTc_c h8 (fun k _ _ => z_up_n _ _ (by omega)), CKn_c h9 (fun k _ _ => z_up_n _ _ (by omega))⟩
theorem RM_sv (ho : π.2 ≤ 24) (h : RM T I π ρ τ ft sv θ M) (w : Int32) : RM T I π ρ τ ft w θ (sw_up M 0 10 w) := by
  obtain ⟨⟨h1, h1'⟩, h2, h3, h4, ⟨h5, h5'⟩, h6, h7, ⟨h8, h8'⟩⟩ := h
  have e : ∀ k, 1 ≤ k → sw_up M 0 10 w k = M k := fun k hk => z_up_n _ _ (by omega)
  have e0 : ∀ j, j ≠ 10 → sw_up M 0 10 w 0 j = M 0 j := fun j hj => z_up_j _ _ hj
  refine ⟨⟨IsM_c h1 (fun j _ _ => by rw [e 1 (by omega)]), by rw [e0 1 (by omega)]; exact h1'⟩, MIm_c h2 (fun j _ _ => by rw [e 1 (by omega)]) (e 2 (by omega)), MPs_c ho h3 (e0 2 (by omega)) (fun j _ _ => by rw [e 1 (by omega)]), MRw_c h4 (fun k _ _ => e k (by omega)), ⟨by rw [e0 8 (by omega)]; exact h5, by rw [e 6 (by omega)]; exact h5'⟩, by rw [e0 9 (by omega)]; exact h6, z_up_s _ _ _ _, ⟨by rw [e0 12 (by omega)]; exact h8, by rw [e 7 (by omega)]; exact h8'⟩⟩
end FRA
