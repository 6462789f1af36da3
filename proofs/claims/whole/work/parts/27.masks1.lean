def nsF (nt : Nat → Int32) (k : Nat) : Int32 := sumF (fun h => if k.testBit h = true then nt h else 0) 8
theorem sum_one {P : Nat → Prop} [DecidablePred P] {f : Nat → Int32} {j : Nat} (hj : P j) : ∀ n, sumF (fun h => if P h then f h else 0) n = sumF (fun h => if P h ∧ h ≠ j then f h else 0) n + (if j < n then f j else 0)
  | 0 => by simp [sumF]
  | n + 1 => by
    rw [sumF, sumF, sum_one hj n]
    by_cases h : n = j
    · subst h
      simp [hj]
    · by_cases h2 : j < n
      · have h3 : j < n + 1 := by omega
        by_cases hp : P n
        · simp only [hp, h2, h3, h, if_true, ne_eq, not_false_eq_true, and_self]; grind
        · simp only [hp, h2, h3, if_true, if_false, false_and]; grind
      · have h3 : ¬ j < n + 1 := by omega
        by_cases hp : P n
        · simp only [hp, h2, h3, h, if_true, if_false, ne_eq, not_false_eq_true, and_self]; grind
        · simp only [hp, h2, h3, if_false, false_and] <;> grind
theorem nsF_step {nt : Nat → Int32} {k : Nat} (hk : k < 256) (h1 : 1 ≤ k) : nsF nt k = nsF nt (k &&& (k - 1)) + nt (ntzN k) := by
  have hz := m_ntz k hk h1
  rw [nsF, sum_one (P := fun h => k.testBit h = true) (j := ntzN k) hz.2, if_pos hz.1, nsF]
  congr 1
  apply sumF_congr
  intro h hh
  have := m_ntzb k hk h1 h hh
  by_cases q : (k &&& (k - 1)).testBit h = true
  · rw [if_pos q, if_pos (this.mp q)]
  · rw [if_neg q, if_neg (fun z => q (this.mpr z))]
def one0 (v : Int32) : Nat := if v = 0 then 1 else 0
/-- the most groups, by taking one house away -/
def FM (nt : Nat → Int32) (f : Nat → Nat) (B : Nat) : Prop := f 0 = 0 ∧ ∀ k, 1 ≤ k → k < B → f k ≤ k ∧ (∀ h, h < 8 → k.testBit h = true → f (k ^^^ 2 ^ h) + one0 (nsF nt k) ≤ f k) ∧ ∃ h, h < 8 ∧ k.testBit h = true ∧ f k = f (k ^^^ 2 ^ h) + one0 (nsF nt k)
def netF (σ : Ab) (δ : Dy) : Nat → Int32 := fun h => sumF (fun s => (if zo σ s = nI h then zw σ s else 0) - (if yp δ s = nI h then zw σ s else 0)) (zS σ)
def fewP (σ : Ab) (δ : Dy) (r : Int32) : Prop := ∃ f, FM (netF σ δ) f 256 ∧ r = 8 - nI (f 255)
theorem FM.le {nt : Nat → Int32} {f : Nat → Nat} {B : Nat} (h : FM nt f B) : ∀ k, k < B → f k ≤ k := by
  intro k hk
  rcases Nat.eq_zero_or_pos k with e | e
  · rw [e, h.1]; exact Nat.le_refl 0
  · exact (h.2 k e hk).1
theorem FM.step {nt : Nat → Int32} {f : Nat → Nat} {i mx : Nat} (h : FM nt f i) (hi : i < 256) (h1 : 1 ≤ i) (hm : mx < i) (ha : ∀ q, q < 8 → i.testBit q = true → f (i ^^^ 2 ^ q) ≤ mx) (hb : mx = 0 ∨ ∃ q, q < 8 ∧ i.testBit q = true ∧ mx = f (i ^^^ 2 ^ q)) : FM nt (va_up f i (mx + one0 (nsF nt i))) (i + 1) := by
  have hz := m_ntz i hi h1
  have hb2 : ∃ q, q < 8 ∧ i.testBit q = true ∧ mx = f (i ^^^ 2 ^ q) := by
    rcases hb with e | e
    · exact ⟨ntzN i, hz.1, hz.2, by have := ha _ hz.1 hz.2; omega⟩
    · exact e
  have ho : one0 (nsF nt i) ≤ 1 := by unfold one0; split <;> omega
  refine ⟨by rw [va_up_ne _ _ (by omega)]; exact h.1, fun k k1 k2 => ?_⟩
  rcases Nat.lt_or_ge k i with q | q
  · have hk := h.2 k k1 q
    have hlt : ∀ q, q < 8 → k.testBit q = true → va_up f i (mx + one0 (nsF nt i)) (k ^^^ 2 ^ q) = f (k ^^^ 2 ^ q) := fun z hz hb => va_up_ne _ _ (by have := m_lt k (by omega) z hz hb; omega)
    rw [va_up_ne _ _ (by omega)]
    refine ⟨hk.1, fun z hz hb => by rw [hlt z hz hb]; exact hk.2.1 z hz hb, ?_⟩
    obtain ⟨z, hz, hb, e⟩ := hk.2.2
    exact ⟨z, hz, hb, by rw [hlt z hz hb]; exact e⟩
  · have : k = i := by omega
    subst this
    have hlt : ∀ q, q < 8 → k.testBit q = true → va_up f k (mx + one0 (nsF nt k)) (k ^^^ 2 ^ q) = f (k ^^^ 2 ^ q) := fun z hz hb => va_up_ne _ _ (by have := m_lt k hi z hz hb; omega)
    rw [va_up_self]
    refine ⟨by omega, fun z hz hb => by rw [hlt z hz hb]; have := ha z hz hb; omega, ?_⟩
    obtain ⟨z, hz, hb, e⟩ := hb2
    exact ⟨z, hz, hb, by rw [hlt z hz hb]; omega⟩
