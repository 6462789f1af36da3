/-! sets of houses as numbers below 256 -/
def ntzN (k : Nat) : Nat := if k % 2 = 1 then 0 else if k / 2 % 2 = 1 then 1 else if k / 4 % 2 = 1 then 2 else if k / 8 % 2 = 1 then 3 else if k / 16 % 2 = 1 then 4 else if k / 32 % 2 = 1 then 5 else if k / 64 % 2 = 1 then 6 else 7
theorem m_bit : ∀ k, k < 256 → ∀ h, h < 8 → (nI k >>> (nI h &&& 31) &&& 1 = 1 ↔ k.testBit h = true) := by decide +kernel
theorem m_xor : ∀ k, k < 256 → ∀ h, h < 8 → nI k ^^^ ((1 : Int32) <<< (nI h &&& 31)) = nI (k ^^^ 2 ^ h) := by decide +kernel
theorem m_lt : ∀ k, k < 256 → ∀ h, h < 8 → k.testBit h = true → k ^^^ 2 ^ h < k := by decide +kernel
theorem m_and1 : ∀ k, k < 256 → 1 ≤ k → nI k &&& (nI k - 1) = nI (k &&& (k - 1)) := by decide +kernel
theorem m_and1lt : ∀ k, k < 256 → 1 ≤ k → k &&& (k - 1) < k := by decide +kernel
theorem m_ntz : ∀ k, k < 256 → 1 ≤ k → ntzN k < 8 ∧ k.testBit (ntzN k) = true := by decide +kernel
theorem m_ntzb : ∀ k, k < 256 → 1 ≤ k → ∀ h, h < 8 → ((k &&& (k - 1)).testBit h = true ↔ (k.testBit h = true ∧ h ≠ ntzN k)) := by decide +kernel
theorem m_ntzu : ∀ k, k < 256 → 1 ≤ k → (nI k ^^^ -1) &&& (nI k - 1) = nI (2 ^ ntzN k - 1) := by decide +kernel
