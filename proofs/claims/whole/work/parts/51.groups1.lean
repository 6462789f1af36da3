/-! groups of houses: the two ways of counting them agree -/
def sb (j k : Nat) : Prop := ∀ i, j.testBit i = true → k.testBit i = true
theorem sb_and {j k : Nat} : sb j k ↔ j &&& k = j := by
  constructor
  · intro h
    apply Nat.eq_of_testBit_eq
    intro i
    rw [Nat.testBit_and]
    by_cases e : j.testBit i = true
    · simp [e, h i e]
    · simp [e]
  · intro h i e
    rw [← h, Nat.testBit_and] at e
    simp at e
    exact e.2
theorem sb_le {j k : Nat} (h : sb j k) : j ≤ k := by
  rw [← sb_and.mp h]
  exact Nat.and_le_right
theorem sb_rf (k : Nat) : sb k k := fun _ h => h
theorem sb_tr {i j k : Nat} (h : sb i j) (h2 : sb j k) : sb i k := fun q e => h2 q (h q e)
theorem sb_x {j k h : Nat} (hj : sb j k) (hb : j.testBit h = false) : sb j (k ^^^ 2 ^ h) := by
  intro i hi
  rw [Nat.testBit_xor, hj i hi, Nat.testBit_two_pow]
  by_cases e : h = i
  · subst e; rw [hb] at hi; cases hi
  · simp [e]
theorem sb_xo {o k h : Nat} (ho : sb o k) (hb : o.testBit h = true) : sb (k ^^^ o) (k ^^^ 2 ^ h) := by
  intro i hi
  rw [Nat.testBit_xor] at hi ⊢
  rw [Nat.testBit_two_pow]
  by_cases e : o.testBit i = true
  · rw [e, ho i e] at hi; cases hi
  · have e2 : o.testBit i = false := by simpa using e
    rw [e2] at hi
    by_cases q : h = i
    · subst q; rw [hb] at e2; cases e2
    · simp at hi; simp [hi, q]
theorem sb_xs {o k : Nat} (ho : sb o k) : sb (k ^^^ o) k := by
  intro i hi
  rw [Nat.testBit_xor] at hi
  by_cases e : o.testBit i = true
  · exact ho i e
  · simp [e] at hi; exact hi
theorem nI_and (a b : Nat) : nI a &&& nI b = nI (a &&& b) := by
  apply Int32.toBitVec_inj.mp
  rw [Int32.toBitVec_and]
  show BitVec.ofNat 32 a &&& BitVec.ofNat 32 b = BitVec.ofNat 32 (a &&& b)
  rw [BitVec.ofNat_and]
theorem xo_xo (k o : Nat) : k ^^^ (k ^^^ o) = o := by rw [← Nat.xor_assoc, Nat.xor_self, Nat.zero_xor]
theorem nextsub : ∀ (k o p : Nat), o &&& k = o → p &&& k = p → p < o → p ≤ (o - 1) &&& k := by
  intro k
  induction k using Nat.strongRecOn with
  | ind k ih =>
    intro o p ho hp hlt
    by_cases hk : k = 0
    · subst hk; simp at ho; omega
    · have d1 : (o / 2) &&& (k / 2) = o / 2 := by rw [← Nat.and_div_two, ho]
      have d2 : (p / 2) &&& (k / 2) = p / 2 := by rw [← Nat.and_div_two, hp]
      have d3 : ((o - 1) &&& k) / 2 = ((o - 1) / 2) &&& (k / 2) := Nat.and_div_two
      have m2 : p % 2 = 1 → k % 2 = 1 := fun q => by
        have : (p &&& k) % 2 = 1 := by rw [hp]; exact q
        exact (Nat.and_mod_two_eq_one.mp this).2
      by_cases x : o % 2 = 1
      · rw [show (o - 1) / 2 = o / 2 by omega, d1] at d3
        omega
      · have hi := ih (k / 2) (by omega) (o / 2) (p / 2) d1 d2 (by omega)
        rw [show (o - 1) / 2 = o / 2 - 1 by omega] at d3
        have m3 : k % 2 = 1 → ((o - 1) &&& k) % 2 = 1 := fun q => Nat.and_mod_two_eq_one.mpr ⟨by omega, q⟩
        rcases Nat.mod_two_eq_zero_or_one p with e | e
        · omega
        · have := m3 (m2 e)
          omega
theorem sumF_add {f h : Nat → Int32} : ∀ n, sumF (fun i => f i + h i) n = sumF f n + sumF h n
  | 0 => rfl
  | n + 1 => by rw [sumF, sumF, sumF, sumF_add n]; grind
theorem nsF_add {nt : Nat → Int32} {o k : Nat} (h : sb o k) : nsF nt k = nsF nt o + nsF nt (k ^^^ o) := by
  unfold nsF
  rw [← sumF_add]
  apply sumF_congr
  intro i _
  rw [Nat.testBit_xor]
  by_cases e : o.testBit i = true
  · rw [if_pos e, if_pos (h i e), e, h i e]; simp
  · have e2 : o.testBit i = false := by simpa using e
    rw [if_neg e, e2]
    by_cases q : k.testBit i = true
    · simp [q]
    · simp [q]
def GR (nt : Nat → Int32) (f : Nat → Nat) (B : Nat) : Prop := f 0 = 1 ∧ ∀ k, 1 ≤ k → k < B → f k ≤ k + 1 ∧ (∀ o, 1 ≤ o → sb o k → nsF nt o = 0 → ¬ f (k ^^^ o) = 0 → f (k ^^^ o) + 1 ≤ f k) ∧ (f k = 0 ∨ ∃ o, 1 ≤ o ∧ sb o k ∧ nsF nt o = 0 ∧ ¬ f (k ^^^ o) = 0 ∧ f k = f (k ^^^ o) + 1)
theorem bit_8 {k h : Nat} (hk : k < 256) (hb : k.testBit h = true) : h < 8 := by
  have := Nat.ge_two_pow_of_testBit hb
  rcases Nat.lt_or_ge h 8 with q | q
  · exact q
  · have := Nat.pow_le_pow_right (n := 2) (by decide) q
    omega
theorem FM.mono {nt : Nat → Int32} {f : Nat → Nat} (F : FM nt f 256) : ∀ k, k < 256 → ∀ j, sb j k → f j ≤ f k := by
  intro k
  induction k using Nat.strongRecOn with
  | ind k ih =>
    intro hk j hj
    by_cases e : j = k
    · rw [e]; exact Nat.le_refl _
    · have hx : ∃ h, k.testBit h = true ∧ j.testBit h = false := Classical.byContradiction (fun no => e (Nat.eq_of_testBit_eq (fun i => by
        by_cases q : j.testBit i = true
        · rw [q, hj i q]
        · have q2 : j.testBit i = false := by simpa using q
          rw [q2]
          by_cases z : k.testBit i = true
          · exact absurd ⟨i, z, q2⟩ no
          · simpa using z)))
      obtain ⟨h, h1, h2⟩ := hx
      have h8 := bit_8 hk h1
      have hk1 : 1 ≤ k := by
        rcases Nat.eq_zero_or_pos k with z | z
        · subst z; simp at h1
        · exact z
      have hl := m_lt k hk h h8 h1
      have := ih (k ^^^ 2 ^ h) hl (by omega) j (sb_x hj h2)
      have := (F.2 k hk1 hk).2.1 h h8 h1
      omega
theorem one0_1 {v : Int32} (h : v = 0) : one0 v = 1 := by unfold one0; rw [if_pos h]
theorem one0_0 {v : Int32} (h : ¬ v = 0) : one0 v = 0 := by unfold one0; rw [if_neg h]
theorem few_up {nt : Nat → Int32} {f m : Nat → Nat} (F : FM nt f 256) (G : GR nt m 256) : ∀ k, k < 256 → ¬ m k = 0 → nsF nt k = 0 ∧ m k ≤ f k + 1 := by
  intro k
  induction k using Nat.strongRecOn with
  | ind k ih =>
    intro hk hm
    rcases Nat.eq_zero_or_pos k with e | e
    · subst e
      exact ⟨nsF_0 nt, by rw [G.1]; omega⟩
    · obtain ⟨o, o1, o2, o3, o4, o5⟩ := (G.2 k e hk).2.2.resolve_left hm
      have ol := sb_le o2
      have hl := xo_lt k hk o (by omega) (sb_and.mp o2) o1
      obtain ⟨i1, i2⟩ := ih (k ^^^ o) hl (by omega) o4
      have ez : nsF nt k = 0 := by rw [nsF_add o2, o3, i1]; rfl
      refine ⟨ez, ?_⟩
      obtain ⟨z1, z2⟩ := m_ntz o (by omega) o1
      have b := (F.2 k e hk).2.1 (ntzN o) z1 (o2 _ z2)
      rw [one0_1 ez] at b
      have hl2 := m_lt k hk (ntzN o) z1 (o2 _ z2)
      have c := F.mono (k ^^^ 2 ^ ntzN o) (by omega) (k ^^^ o) (sb_xo o2 z2)
      omega
theorem few_dn {nt : Nat → Int32} {f m : Nat → Nat} (F : FM nt f 256) (G : GR nt m 256) : ∀ k, k < 256 → ∃ j, sb j k ∧ nsF nt j = 0 ∧ ¬ m j = 0 ∧ f k + 1 ≤ m j ∧ (nsF nt k = 0 → j = k) := by
  intro k
  induction k using Nat.strongRecOn with
  | ind k ih =>
    intro hk
    rcases Nat.eq_zero_or_pos k with e | e
    · subst e
      exact ⟨0, sb_rf 0, nsF_0 nt, by rw [G.1]; omega, by rw [G.1, F.1]; omega, fun _ => rfl⟩
    · obtain ⟨h, h8, hb, ef⟩ := (F.2 k e hk).2.2
      have hl := m_lt k hk h h8 hb
      obtain ⟨j, j1, j2, j3, j4, _⟩ := ih (k ^^^ 2 ^ h) hl (by omega)
      have hs : sb (2 ^ h) k := fun i q => by
        rw [Nat.testBit_two_pow] at q
        simp at q
        subst q; exact hb
      have jk : sb j k := sb_tr j1 (sb_xs hs)
      by_cases z : nsF nt k = 0
      · rw [one0_1 z] at ef
        have hjh : j.testBit h = false := by
          by_cases q : j.testBit h = true
          · have := j1 h q
            rw [Nat.testBit_xor, hb, Nat.testBit_two_pow] at this
            simp at this
          · simpa using q
        have hos : sb (k ^^^ j) k := sb_xs jk
        have hob : (k ^^^ j).testBit h = true := by rw [Nat.testBit_xor, hb, hjh]; rfl
        have ho1 : 1 ≤ k ^^^ j := by
          rcases Nat.eq_zero_or_pos (k ^^^ j) with y | y
          · rw [y] at hob; simp at hob
          · exact y
        have hn : nsF nt (k ^^^ j) = 0 := by
          have := nsF_add (nt := nt) jk
          rw [z, j2] at this
          rw [this]; exact (Int32.zero_add _).symm
        have := (G.2 k e hk).2.1 (k ^^^ j) ho1 hos hn (by rw [xo_xo]; exact j3)
        rw [xo_xo] at this
        exact ⟨k, sb_rf k, z, by omega, by omega, fun _ => rfl⟩
      · rw [one0_0 z] at ef
        exact ⟨j, jk, j2, j3, by omega, fun q => absurd q z⟩
theorem few_255 {nt : Nat → Int32} {f m : Nat → Nat} (F : FM nt f 256) (G : GR nt m 256) (h : nsF nt 255 = 0) : m 255 = f 255 + 1 := by
  obtain ⟨j, _, _, j3, j4, j5⟩ := few_dn F G 255 (by decide)
  rw [j5 h] at j3 j4
  have := (few_up F G 255 (by decide) j3).2
  omega
theorem FM.uni {nt : Nat → Int32} {f m : Nat → Nat} (F : FM nt f 256) (G : FM nt m 256) : ∀ k, k < 256 → f k = m k := by
  intro k
  induction k using Nat.strongRecOn with
  | ind k ih =>
    intro hk
    rcases Nat.eq_zero_or_pos k with e | e
    · rw [e, F.1, G.1]
    · obtain ⟨h, h8, hb, ef⟩ := (F.2 k e hk).2.2
      obtain ⟨h', h8', hb', ef'⟩ := (G.2 k e hk).2.2
      have i1 := ih _ (m_lt k hk h h8 hb) (by have := m_lt k hk h h8 hb; omega)
      have i2 := ih _ (m_lt k hk h' h8' hb') (by have := m_lt k hk h' h8' hb'; omega)
      have a1 := (G.2 k e hk).2.1 h h8 hb
      have a2 := (F.2 k e hk).2.1 h' h8' hb'
      omega
