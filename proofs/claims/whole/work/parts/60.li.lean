/-! what stands between two calls, besides the city: the page, how often contracts were read, the image -/
def KC (M M' : Mm) : Prop := mI M' 1 1 = mI M 1 1 ∧ mI M' 2 = mI M 2 ∧ (∀ k, 14 ≤ k → k ≤ 17 → mI M' 0 k = mI M 0 k) ∧ ∀ c, 18 ≤ c → c ≤ 24 → mI M' c = mI M c
def KR (M M' : Mm) : Prop := mI M' 44 1 = mI M 44 1 ∧ mI M' 44 6 = mI M 44 6 ∧ (∀ k, 22 ≤ k → k ≤ 27 → mI M' 44 k = mI M 44 k) ∧ mI M' 45 = mI M 45 ∧ mI M' 56 = mI M 56 ∧ mI M' 57 = mI M 57 ∧ mI M' 58 = mI M 58
theorem KC.rf (M : Mm) : KC M M := ⟨rfl, rfl, fun _ _ _ => rfl, fun _ _ _ => rfl⟩
theorem KR.rf (M : Mm) : KR M M := ⟨rfl, rfl, fun _ _ _ => rfl, rfl, rfl, rfl, rfl⟩
theorem KC.tr {A B C : Mm} (h : KC A B) (k : KC B C) : KC A C := ⟨k.1.trans h.1, k.2.1.trans h.2.1, fun q a b => (k.2.2.1 q a b).trans (h.2.2.1 q a b), fun q a b => (k.2.2.2 q a b).trans (h.2.2.2 q a b)⟩
theorem KR.tr {A B C : Mm} (h : KR A B) (k : KR B C) : KR A C := ⟨k.1.trans h.1, k.2.1.trans h.2.1, fun q a b => (k.2.2.1 q a b).trans (h.2.2.1 q a b), k.2.2.2.1.trans h.2.2.2.1, k.2.2.2.2.1.trans h.2.2.2.2.1, k.2.2.2.2.2.1.trans h.2.2.2.2.2.1, k.2.2.2.2.2.2.trans h.2.2.2.2.2.2⟩
theorem KC.fr {is ls : List Nat} {M M' : Mm} (f : Fr is ls M M') (h : ∀ a ∈ is, 2 < a ∧ ¬ (18 ≤ a ∧ a ≤ 24)) : KC M M' :=
  ⟨by rw [f.2.1 1 (fun q => by have := (h _ q).1; omega)], f.2.1 2 (fun q => by have := (h _ q).1; omega), fun k _ _ => by rw [f.2.1 0 (fun q => by have := (h _ q).1; omega)], fun c a b => f.2.1 c (fun q => (h _ q).2 ⟨a, b⟩)⟩
theorem KR.fr {is ls : List Nat} {M M' : Mm} (f : Fr is ls M M') (h : ∀ a ∈ is, a ≠ 44 ∧ a ≠ 45 ∧ a ≠ 56 ∧ a ≠ 57 ∧ a ≠ 58) : KR M M' := by
  have e := f.2.1 44 (fun q => (h _ q).1 rfl)
  exact ⟨by rw [e], by rw [e], fun k _ _ => by rw [e], f.2.1 45 (fun q => (h _ q).2.1 rfl), f.2.1 56 (fun q => (h _ q).2.2.1 rfl), f.2.1 57 (fun q => (h _ q).2.2.2.1 rfl), f.2.1 58 (fun q => (h _ q).2.2.2.2 rfl)⟩
theorem KR.f44 {is ls : List Nat} {M M' : Mm} (f : Fr is ls M M') (h : ∀ a ∈ is, a ≠ 45 ∧ a ≠ 56 ∧ a ≠ 57 ∧ a ≠ 58) (e : ∀ k, k = 1 ∨ k = 6 ∨ (22 ≤ k ∧ k ≤ 27) → mI M' 44 k = mI M 44 k) : KR M M' :=
  ⟨e 1 (by omega), e 6 (by omega), fun k a b => e k (by omega), f.2.1 45 (fun q => (h _ q).1 rfl), f.2.1 56 (fun q => (h _ q).2.1 rfl), f.2.1 57 (fun q => (h _ q).2.2.1 rfl), f.2.1 58 (fun q => (h _ q).2.2.2 rfl)⟩
def PGs (pg : Rw) (pn : Nat) (M : Mm) : Prop := mI M 1 1 = nI pn ∧ mI M 44 1 = nI pn ∧ pn ≤ 40 ∧ ∀ k, k < pn → mI M 2 k = pg k ∧ mI M 45 k = pg k ∧ 0 ≤ pg k ∧ pg k ≤ 255
def IMs (σ : Ab) (tr : Nat) (M : Mm) : Prop := (mI M 0 15 = 0 ∧ mI M 44 22 = -1) ∨ (mI M 0 15 = 1 ∧ ∃ kr ks, mI M 0 16 = nI kr ∧ mI M 44 22 = nI kr ∧ mI M 0 17 = nI ks ∧ mI M 44 23 = nI ks ∧ kr ≤ tr ∧ ks ≤ zS σ ∧ (kr = tr → ks = zS σ → ∃ δ2, CC 18 M σ δ2 ∧ RK σ δ2 M ∧ DW σ δ2))
def EX (σ : Ab) (pg : Rw) (pn tr : Nat) (M : Mm) : Prop := PGs pg pn M ∧ (mI M 0 14 = nI tr ∧ mI M 44 6 = nI tr) ∧ IMs σ tr M
theorem RK.keep {σ : Ab} {δ : Dy} {M M' : Mm} (h : RK σ δ M) (k : KR M M') : RK σ δ M' := by
  obtain ⟨a, b, c, d, e, f, m⟩ := h
  obtain ⟨_, _, k3, _, k5, k6, k7⟩ := k
  exact ⟨by rw [k7]; exact a, by rw [k5]; exact b, by rw [k3 26 (by decide) (by decide)]; exact c, by rw [k3 27 (by decide) (by decide)]; exact d, by rw [k6]; exact e, by rw [k3 24 (by decide) (by decide)]; exact f, by rw [k3 25 (by decide) (by decide)]; exact m⟩
theorem PGs.keep {pg : Rw} {pn : Nat} {M M' : Mm} (h : PGs pg pn M) (a : KC M M') (b : KR M M') : PGs pg pn M' := by
  unfold PGs
  rw [a.1, a.2.1, b.1, b.2.2.2.1]
  exact h
theorem IMs.keep {σ : Ab} {tr : Nat} {M M' : Mm} (h : IMs σ tr M) (a : KC M M') (b : KR M M') : IMs σ tr M' := by
  unfold IMs
  rw [a.2.2.1 15 (by decide) (by decide), a.2.2.1 16 (by decide) (by decide), a.2.2.1 17 (by decide) (by decide), b.2.2.1 22 (by decide) (by decide), b.2.2.1 23 (by decide) (by decide)]
  rcases h with h | ⟨h, kr, ks, h1, h2, h3, h4, h5, h6, h7⟩
  · exact Or.inl h
  · refine Or.inr ⟨h, kr, ks, h1, h2, h3, h4, h5, h6, fun e1 e2 => ?_⟩
    obtain ⟨δ2, c1, c2, c3⟩ := h7 e1 e2
    exact ⟨δ2, c1.keep (fun k hk => a.2.2.2 (18 + k) (by omega) (by omega)), c2.keep b, c3⟩
theorem EX.keep {σ : Ab} {pg : Rw} {pn tr : Nat} {M M' : Mm} (h : EX σ pg pn tr M) (a : KC M M') (b : KR M M') : EX σ pg pn tr M' :=
  ⟨h.1.keep a b, ⟨(a.2.2.1 14 (by decide) (by decide)).trans h.2.1.1, b.2.1.trans h.2.1.2⟩, h.2.2.keep a b⟩
def LI (σ : Ab) (δ : Dy) (pg : Rw) (pn tr : Nat) (M : Mm) : Prop := CA σ δ M ∧ RA σ δ M ∧ EX σ pg pn tr M
theorem LI_Z : LI σ0 δ0 (fun _ => 0) 0 0 mZ := ⟨CA_Z, RA_Z, ⟨z_0.2.2.2.2.1, z_44.1, by decide, fun k hk => absurd hk (Nat.not_lt_zero k)⟩, ⟨z_0.2.2.1, z_44.2.2.1⟩, Or.inl ⟨z_0.2.2.2.1, z_44.2.2.2.2.2.2.2.2⟩⟩
