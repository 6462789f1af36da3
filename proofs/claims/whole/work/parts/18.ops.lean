/-! what the calls answer, and what becomes of the city, in numbers alone -/
theorem one_of {r : Int32} {p : Prop} [Decidable p] (h : r = if p then 1 else 0) (c : ¬ r = 0) : p := by
  by_cases hp : p
  · exact hp
  · rw [if_neg hp] at h; exact absurd h c
theorem zero_of {r : Int32} {p : Prop} [Decidable p] (h : r = if p then 1 else 0) (c : r = 0) : ¬ p := by
  intro hp
  rw [if_pos hp, c] at h
  exact absurd h (by decide)
def aboutR (σ : Ab) (δ : Dy) (t w : Int32) : Int32 := if 0 ≤ t ∧ t < nI (zN σ) then (if w = 0 then nI (zk σ t.toNatClampNeg) else if w = 1 then zp σ t.toNatClampNeg else if w = 2 then zr σ t.toNatClampNeg else if w = 3 then zf σ t.toNatClampNeg else if w = 4 then yq δ t.toNatClampNeg else if w = 5 then yt δ t.toNatClampNeg else -102) else -101
def asR (σ : Ab) (t k : Int32) : Int32 := if 0 ≤ t ∧ t < nI (zN σ) then (if 0 ≤ k ∧ k ≤ 4 then (if k = 0 ∨ k = nI (zk σ t.toNatClampNeg) ∨ (k = 1 ∧ zk σ t.toNatClampNeg = 4) then t else -1) else -102) else -101
def paidR (σ : Ab) (δ : Dy) (t : Int32) : Int32 := if 0 ≤ t ∧ t < nI (zN σ) then yq δ t.toNatClampNeg else -101
def paidD (σ : Ab) (δ : Dy) (t b : Int32) : Dy := if 0 ≤ t ∧ t < nI (zN σ) then dyQ δ (va_up (yq δ) t.toNatClampNeg b) else δ
def tenR (σ : Ab) (δ : Dy) (t v : Int32) : Int32 := if 0 ≤ t ∧ t < nI (zN σ) then (if 0 ≤ v ∧ v ≤ 10 then yt δ t.toNatClampNeg else -102) else -101
def tenD (σ : Ab) (δ : Dy) (t v : Int32) : Dy := if (0 ≤ t ∧ t < nI (zN σ)) ∧ 0 ≤ v ∧ v ≤ 10 then dyT δ (va_up (yt δ) t.toNatClampNeg v) else δ
def lockR (δ : Dy) (h v : Int32) : Int32 := if 0 ≤ h ∧ h < 8 then (if 0 ≤ v ∧ v ≤ 9 then yl δ h.toNatClampNeg else -102) else -101
def lockD (δ : Dy) (h v : Int32) : Dy := if (0 ≤ h ∧ h < 8) ∧ 0 ≤ v ∧ v ≤ 9 then dyL δ (va_up (yl δ) h.toNatClampNeg v) else δ
def dogR (δ : Dy) (h : Int32) : Int32 := if 0 ≤ h ∧ h < 8 then yd δ h.toNatClampNeg else -101
def dogD (δ : Dy) (h b : Int32) : Dy := if 0 ≤ h ∧ h < 8 then dyD δ (va_up (yd δ) h.toNatClampNeg b) else δ
def spoB (σ : Ab) (h v : Int32) : Prop := (0 ≤ h ∧ h < 8) ∧ (1 ≤ v ∧ v ≤ 99) ∧ zS σ < 8
def spoR (σ : Ab) (h v : Int32) : Int32 := if 0 ≤ h ∧ h < 8 then (if 1 ≤ v ∧ v ≤ 99 then (if zS σ < 8 then nI (zS σ) else -104) else -102) else -101
def spoS (σ : Ab) (h v : Int32) : Ab := if (0 ≤ h ∧ h < 8) ∧ (1 ≤ v ∧ v ≤ 99) ∧ zS σ < 8 then (zN σ, zS σ + 1, zk σ, zp σ, zr σ, zf σ, va_up (zw σ) (zS σ) v, va_up (zo σ) (zS σ) h) else σ
def spoD (σ : Ab) (δ : Dy) (h v : Int32) : Dy := if (0 ≤ h ∧ h < 8) ∧ (1 ≤ v ∧ v ≤ 99) ∧ zS σ < 8 then (va_up (yp δ) (zS σ) h, va_up (ye δ) (zS σ) (-1), yl δ, yd δ, yq δ, yt δ, ym δ, yf δ) else δ
def silR (σ : Ab) (δ : Dy) (s w : Int32) : Int32 := if 0 ≤ s ∧ s < nI (zS σ) then (if w = 0 then zw σ s.toNatClampNeg else if w = 1 then zo σ s.toNatClampNeg else if w = 2 then yp δ s.toNatClampNeg else if w = 3 then ye δ s.toNatClampNeg else -102) else -101
def inH (σ : Ab) (ps : Rw) (h : Int32) : Int32 := sumF (fun s => if ps s = h then zw σ s else 0) (zS σ)
def worR (σ : Ab) (δ : Dy) (h : Int32) : Int32 := if 0 ≤ h ∧ h < 8 then inH σ (yp δ) h else -101
def homF (σ : Ab) (ps : Rw) : Int32 := sumF (fun s => if ps s = zo σ s then zw σ s else 0) (zS σ)
def awaF (σ : Ab) (ps : Rw) : Int32 := sumF (fun s => if ps s = zo σ s then 0 else 1) (zS σ)
def oweR (σ : Ab) (δ : Dy) (a b : Int32) : Int32 := if (0 ≤ a ∧ a < 8) ∧ (0 ≤ b ∧ b < 8) ∧ ¬ a = b then sumF (fun s => if yp δ s = a ∧ zo σ s = b then zw σ s else 0) (zS σ) else -101
def seeR (σ : Ab) (δ : Dy) (s h : Int32) : Int32 := if (0 ≤ s ∧ s < nI (zS σ)) ∧ (h = -1 ∨ (0 ≤ h ∧ h < 8)) then ye δ s.toNatClampNeg else -101
def seeD (σ : Ab) (δ : Dy) (s h : Int32) : Dy := if (0 ≤ s ∧ s < nI (zS σ)) ∧ (h = -1 ∨ (0 ≤ h ∧ h < 8)) then dyE δ (va_up (ye δ) s.toNatClampNeg h) else δ
noncomputable def wheR (σ : Ab) (δ : Dy) (s m : Int32) : Int32 := if 0 ≤ s ∧ s < nI (zS σ) then (if 0 ≤ m ∧ m ≤ 60 then (if zN σ = 0 then -103 else (itF σ (yq δ) (yd δ) m.toNatClampNeg (yp δ) (yl δ)).1 s.toNatClampNeg) else -102) else -101
noncomputable def stiR (σ : Ab) (δ : Dy) : Int32 := if zN σ = 0 then -103 else stF σ (yq δ) (yd δ) 61 0 (yp δ) (yl δ)
theorem nI_zero {n : Nat} (h : n ≤ 8) : nI n = 0 ↔ n = 0 := by
  constructor
  · intro e
    exact (nI_eq (a := n) (b := 0) (by omega) (by decide)).mp e
  · intro e; rw [e]; rfl
/-! the city with one row changed, in the component's cells -/
theorem CC.keep {c : Nat} {M M' : Mm} {σ : Ab} {δ : Dy} (h : CC c M σ δ) (e : ∀ k, k ≤ 6 → mI M' (c + k) = mI M (c + k)) : CC c M' σ δ := by
  obtain ⟨⟨a1, a2, a3, a4⟩, a5, a6, a7, a8, a9⟩ := h
  have e0 : mI M' c = mI M c := e 0 (by decide)
  have e1 := e 1 (by decide); have e2 := e 2 (by decide); have e3 := e 3 (by decide); have e4 := e 4 (by decide); have e5 := e 5 (by decide); have e6 := e 6 (by decide)
  unfold CC CD
  rw [e0, e1, e2, e3, e4, e5, e6]
  exact ⟨⟨a1, a2, a3, a4⟩, a5, a6, a7, a8, a9⟩
theorem CV1.st {σ : Ab} {M : Mm} (h : CV1 σ M) (hs : St M) (w : Wf σ) {a k : Nat} {v : Int32} (hi : a ≠ 0 ∧ a ≠ 9 ∧ a ≠ 10 ∧ (a < 36 ∨ (44 ≤ a ∧ a < 59))) : CV1 σ (sI M a k v) :=
  h.fr hs w ((Fr.rf [a] [] M).sI (by simp)) (by intro b hb; simp at hb; rw [hb]; exact hi)
theorem CA.stP {σ : Ab} {δ : Dy} {M : Mm} (h : CA σ δ M) {j : Nat} (hj : j < zN σ) {b : Int32} (hb : b01 b) : CA σ (dyQ δ (va_up (yq δ) j b)) (sI M 16 j b) := by
  obtain ⟨h1, h2, ⟨d1, d2, d3, d4⟩, h4, ⟨⟨a1, a2, a3, a4⟩, a5, a6, a7, a8, a9⟩⟩ := h
  refine ⟨h1, h2, ⟨d1, d2, d3, fun t ht => ?_⟩, h4.st h1 h2 (by decide), ⟨a1, a2, a3, fun t ht => ?_⟩, a5, a6, a7, a8, fun t ht => ?_⟩
  · show b01 (va_up (yq δ) j b t)
    rw [va_up_if]; split
    · exact hb
    · exact d4 t ht
  · show mI (sI M 16 j b) 16 t = va_up (yq δ) j b t ∧ (va_up (yq δ) j b t = 0 ∨ va_up (yq δ) j b t = 1)
    rw [mI_sI, va_up_if, va_up_if]; split
    · exact ⟨rfl, hb⟩
    · exact a4 t ht
  · show b01 (mI M 15 t) ∧ b01 (mI (sI M 16 j b) 16 t)
    rw [mI_sI, va_up_if]; split
    · exact ⟨(a9 t ht).1, hb⟩
    · exact a9 t ht
theorem CA.stT {σ : Ab} {δ : Dy} {M : Mm} (h : CA σ δ M) {j : Nat} {b : Int32} : CA σ (dyT δ (va_up (yt δ) j b)) (sI M 17 j b) := by
  obtain ⟨h1, h2, h3, h4, ⟨⟨a1, a2, a3, a4⟩, a5, a6, a7, a8, a9⟩⟩ := h
  refine ⟨h1, h2, h3, h4.st h1 h2 (by decide), ⟨a1, a2, a3, a4⟩, a5, fun t ht => ?_, a7, a8, a9⟩
  show mI (sI M 17 j b) 17 t = va_up (yt δ) j b t
  rw [mI_sI, va_up_if, va_up_if]; split
  · rfl
  · exact a6 t ht
theorem CA.stL {σ : Ab} {δ : Dy} {M : Mm} (h : CA σ δ M) {j : Nat} {b : Int32} (hb : 0 ≤ b) : CA σ (dyL δ (va_up (yl δ) j b)) (sI M 14 j b) := by
  obtain ⟨h1, h2, ⟨d1, d2, d3, d4⟩, h4, ⟨⟨a1, a2, a3, a4⟩, a5, a6, a7, a8, a9⟩⟩ := h
  refine ⟨h1, h2, ⟨fun t ht => ?_, d2, d3, d4⟩, h4.st h1 h2 (by decide), ⟨a1, fun t ht => ?_, a3, a4⟩, a5, a6, a7, a8, a9⟩
  · show 0 ≤ va_up (yl δ) j b t
    rw [va_up_if]; split
    · exact hb
    · exact d1 t ht
  · show mI (sI M 14 j b) 14 t = va_up (yl δ) j b t
    rw [mI_sI, va_up_if, va_up_if]; split
    · rfl
    · exact a2 t ht
theorem CA.stD {σ : Ab} {δ : Dy} {M : Mm} (h : CA σ δ M) {j : Nat} {b : Int32} (hb : b01 b) : CA σ (dyD δ (va_up (yd δ) j b)) (sI M 15 j b) := by
  obtain ⟨h1, h2, ⟨d1, d2, d3, d4⟩, h4, ⟨⟨a1, a2, a3, a4⟩, a5, a6, a7, a8, a9⟩⟩ := h
  refine ⟨h1, h2, ⟨d1, d2, fun t ht => ?_, d4⟩, h4.st h1 h2 (by decide), ⟨a1, a2, fun t ht => ?_, a4⟩, a5, a6, a7, a8, fun t ht => ?_⟩
  · show b01 (va_up (yd δ) j b t)
    rw [va_up_if]; split
    · exact hb
    · exact d3 t ht
  · show mI (sI M 15 j b) 15 t = va_up (yd δ) j b t ∧ (va_up (yd δ) j b t = 0 ∨ va_up (yd δ) j b t = 1)
    rw [mI_sI, va_up_if, va_up_if]; split
    · exact ⟨rfl, hb⟩
    · exact a3 t ht
  · show b01 (mI (sI M 15 j b) 15 t) ∧ b01 (mI M 16 t)
    rw [mI_sI, va_up_if]; split
    · exact ⟨hb, (a9 t ht).2⟩
    · exact a9 t ht
theorem CA.stE {σ : Ab} {δ : Dy} {M : Mm} (h : CA σ δ M) {j : Nat} {b : Int32} : CA σ (dyE δ (va_up (ye δ) j b)) (sI M 13 j b) := by
  obtain ⟨h1, h2, h3, h4, ⟨⟨a1, a2, a3, a4⟩, a5, a6, a7, a8, a9⟩⟩ := h
  refine ⟨h1, h2, h3, h4.st h1 h2 (by decide), ⟨a1, a2, a3, a4⟩, fun t ht => ?_, a6, a7, a8, a9⟩
  show mI (sI M 13 j b) 13 t = va_up (ye δ) j b t
  rw [mI_sI, va_up_if, va_up_if]; split
  · rfl
  · exact a5 t ht
