/-! the start state -/
theorem z_N : 59 ≤ mN mZ := by decide +kernel
theorem z_T : ∀ a, a < 59 → shpL[a]? = some (mT mZ a) := by decide +kernel
theorem z_R : ∀ a, a < 59 → ∀ n, n < 32 → rfs a n = none ∨ mR mZ a n = rfs a n := by decide +kernel
theorem z_th : ∀ t, t < 8 → mR mZ 8 t = some (36 + t) := by decide +kernel
theorem z_thT : ∀ t, t < 8 → mT mZ (36 + t) = .inl 7 := by decide +kernel
theorem z_0 : mI mZ 0 12 = 0 ∧ mI mZ 0 13 = 0 ∧ mI mZ 0 14 = 0 ∧ mI mZ 0 15 = 0 ∧ mI mZ 1 1 = 0 ∧ mI mZ 11 6 = 0 ∧ mI mZ 11 7 = 0 := by decide +kernel
theorem z_44 : mI mZ 44 1 = 0 ∧ mI mZ 44 5 = 0 ∧ mI mZ 44 6 = 0 ∧ mI mZ 44 8 = 0 ∧ mI mZ 44 10 = 0 ∧ mI mZ 44 11 = 0 ∧ mI mZ 44 12 = 0 ∧ mI mZ 44 13 = 0 ∧ mI mZ 44 22 = -1 := by decide +kernel
theorem z_a : ∀ k, k < 8 → mI mZ 14 k = 0 ∧ mI mZ 15 k = 0 ∧ mI mZ 16 k = 0 ∧ mI mZ 49 k = 0 := by decide +kernel
theorem rfs_lt {a n j : Nat} (h : rfs a n = some j) : a < 59 ∧ n < 32 := by
  unfold rfs at h
  have hn : n < (rfsL a).length := by
    rcases Nat.lt_or_ge n (rfsL a).length with q | q
    · exact q
    · rw [List.getElem?_eq_none q] at h; cases h
  have ha : a < 59 := by
    rcases Nat.lt_or_ge a 59 with q | q
    · exact q
    · exfalso
      have : rfsL a = [] := by
        unfold rfsL
        split <;> first | rfl | omega
      rw [this] at hn
      exact absurd hn (by simp)
  refine ⟨ha, Nat.lt_of_lt_of_le hn ?_⟩
  have : ∀ b, b < 59 → (rfsL b).length ≤ 32 := by decide +kernel
  exact this a ha
theorem St_Z : St mZ := by
  refine ⟨z_N, fun a sh e => ?_, fun a n j e => ?_, fun t ht => ?_⟩
  · have ha : a < 59 := by
      rcases Nat.lt_or_ge a 59 with q | q
      · exact q
      · rw [List.getElem?_eq_none (show shpL.length ≤ a from q)] at e; cases e
    rw [z_T a ha] at e
    injection e
  · obtain ⟨ha, hn⟩ := rfs_lt e
    rcases z_R a ha n hn with q | q
    · rw [e] at q; cases q
    · rw [q, e]
  · have e := z_th t ht
    have e2 : thi mZ t = 36 + t := by unfold thi; rw [e]; rfl
    rw [e2]
    refine ⟨e, by omega, by omega, ?_, Or.inl (z_thT t ht)⟩
    have := z_N
    omega
theorem Wf_0 : Wf σ0 := ⟨by decide, by decide, fun t ht => absurd ht (Nat.not_lt_zero t), fun s hs => absurd hs (Nat.not_lt_zero s)⟩
theorem DW_0 : DW σ0 δ0 := ⟨fun _ _ => Int32.le_refl 0, fun s hs => absurd hs (Nat.not_lt_zero s), fun _ _ => Or.inl rfl, fun s hs => absurd hs (Nat.not_lt_zero s)⟩
theorem CA_Z : CA σ0 δ0 mZ := by
  refine ⟨St_Z, Wf_0, DW_0, ⟨z_0.1, z_0.2.1, fun t ht => absurd ht (Nat.not_lt_zero t), fun s hs => absurd hs (Nat.not_lt_zero s)⟩, ⟨fun s hs => absurd hs (Nat.not_lt_zero s), fun h h8 => (z_a h h8).1, fun h h8 => ⟨(z_a h h8).2.1, Or.inl rfl⟩, fun t ht => absurd ht (Nat.not_lt_zero t)⟩, fun s hs => absurd hs (Nat.not_lt_zero s), fun t ht => absurd ht (Nat.not_lt_zero t), z_0.2.2.2.2.2.1, z_0.2.2.2.2.2.2, fun j hj => ⟨Or.inl (z_a j hj).2.1, Or.inl (z_a j hj).2.2.1⟩⟩
theorem RA_Z : RA σ0 δ0 mZ := by
  refine ⟨St_Z, Wf_0, DW_0, ⟨z_44.2.1, z_44.2.2.2.2.1, fun t ht => absurd ht (Nat.not_lt_zero t), fun s hs => absurd hs (Nat.not_lt_zero s)⟩, fun s hs => absurd hs (Nat.not_lt_zero s), fun h h8 => (z_a h h8).2.2.2, fun h h8 => ?_, fun t ht => absurd ht (Nat.not_lt_zero t), fun t ht => absurd ht (Nat.not_lt_zero t), z_44.2.2.2.2.2.1, z_44.2.2.2.2.2.2.1⟩
  rw [z_44.2.2.2.2.2.2.2.1]
  exact rbit0 h8
