/-! parts of sets, as numbers -/
theorem xo_lt : ∀ k, k < 256 → ∀ o, o < 256 → o &&& k = o → 1 ≤ o → k ^^^ o < k := by decide +kernel
theorem xo_I : ∀ k, k < 256 → ∀ o, o < 256 → o &&& k = o → nI k &&& (nI o ^^^ -1) = nI (k ^^^ o) := by decide +kernel
