/-! the greatest divisor, by rests -/
theorem rem64_toInt (a b : Int64) : (a - a / b * b).toInt = a.toInt.tmod b.toInt := by
  rw [Int64.toInt_sub, Int64.toInt_mul, Int64.toInt_div, Int.bmod_mul_bmod, Int.sub_bmod_bmod, Int.mul_comm, ← Int.tmod_def]
  have h1 : (a % b).toInt = a.toInt.tmod b.toInt := Int64.toInt_mod a b
  rw [← h1]
  exact Int64.toInt_bmod (a % b)
theorem lgc0 {a b : Int64} : lg_cmp a b = 0 ↔ a = b := by
  unfold lg_cmp
  constructor
  · intro h
    by_cases h1 : a > b
    · simp [h1] at h
    · by_cases h2 : a = b
      · exact h2
      · simp [h1, h2] at h
  · intro h
    subst h
    simp
def euP : Nat → Int64 → Int64 → Int64 × Int64
  | 0, a, b => (a, b)
  | n + 1, a, b => if b = 0 then (a, b) else euP n b (a - a / b * b)
theorem euP_0 (n : Nat) (a : Int64) : euP n a 0 = (a, 0) := by
  cases n with
  | zero => rfl
  | succ n => rw [euP, if_pos rfl]
theorem euP_s {n : Nat} {a b : Int64} (h : ¬ b = 0) : euP (n + 1) a b = euP n b (a - a / b * b) := by rw [euP, if_neg h]
theorem i64_0 {b : Int64} (h : b.toInt.natAbs = 0) : b = 0 := by
  apply Int64.toInt_inj.mp
  rw [Int.natAbs_eq_zero.mp h]
  rfl
theorem euP_z : ∀ (k : Nat) (a b : Int64), b.toInt.natAbs < 2 ^ k → (euP (2 * k + 1) a b).2 = 0
  | 0, a, b, h => by rw [i64_0 (by omega : b.toInt.natAbs = 0), euP_0]
  | k + 1, a, b, h => by
    by_cases hb : b = 0
    · rw [hb, euP_0]
    · rw [show 2 * (k + 1) + 1 = (2 * k + 1) + 1 + 1 by omega, euP_s hb]
      generalize hr : a - a / b * b = r
      have er : r.toInt.natAbs = a.toInt.natAbs % b.toInt.natAbs := by rw [← hr, rem64_toInt, Int.natAbs_tmod]
      by_cases hr0 : r = 0
      · rw [hr0, euP_0]
      · rw [euP_s hr0]
        apply euP_z k
        rw [rem64_toInt, Int.natAbs_tmod]
        have hb0 : 0 < b.toInt.natAbs := Nat.pos_of_ne_zero (fun q => hb (i64_0 q))
        have h1 : r.toInt.natAbs < b.toInt.natAbs := by rw [er]; exact Nat.mod_lt _ hb0
        have hr1 : 0 < r.toInt.natAbs := Nat.pos_of_ne_zero (fun q => hr0 (i64_0 q))
        have h2 := Nat.mod_lt b.toInt.natAbs hr1
        have h3 : b.toInt.natAbs % r.toInt.natAbs ≤ b.toInt.natAbs - r.toInt.natAbs := by
          rw [Nat.mod_eq_sub_mod (Nat.le_of_lt h1)]
          exact Nat.mod_le _ _
        rw [Nat.pow_succ] at h
        omega
theorem euP_more : ∀ (n m : Nat) (a b : Int64), (euP n a b).2 = 0 → euP (n + m) a b = euP n a b
  | 0, m, a, b, h => by
    have h' : b = 0 := h
    rw [h', euP_0, euP_0]
  | n + 1, m, a, b, h => by
    by_cases hb : b = 0
    · rw [hb, euP_0, euP_0]
    · rw [show n + 1 + m = (n + m) + 1 by omega, euP_s hb, euP_s hb]
      rw [euP_s hb] at h
      exact euP_more n m b _ h
theorem euP_200 (a b : Int64) : (euP 200 a b).2 = 0 := by
  have h := euP_z 64 a b (by
    have h1 := b.le_toInt
    have h2 := b.toInt_lt
    omega)
  rw [show 200 = (2 * 64 + 1) + 71 by decide, euP_more _ _ _ _ h]
  exact h
theorem euP_ne : ∀ (n : Nat) (a b : Int64), ¬ a = 0 → ¬ (euP n a b).1 = 0
  | 0, a, b, h => h
  | n + 1, a, b, h => by
    by_cases hb : b = 0
    · rw [hb, euP_0]; exact h
    · rw [euP_s hb]; exact euP_ne n b _ hb
/-! chances -/
abbrev Lw : Type := Nat → Int64
def takB (k : Nat) (dg lo : Int32) : Prop := ¬ k = 3 ∧ ¬ outF k dg lo
noncomputable def mvF (σ : Ab) (pd dg lo te : Rw) (t : Nat) (od : Lw) : Int64 := by
  classical exact if takB (zk σ t) (dg (frF σ (pd t) t).toNatClampNeg) (lo (frF σ (pd t) t).toNatClampNeg) then od (frF σ (pd t) t).toNatClampNeg * (te t).toInt64 else 0
def tnL (od : Lw) : Lw := fun h => if h < 8 then od h * 10 else od h
def sprL (od : Lw) (fr to : Nat) (mv : Int64) : Lw := va_up (va_up (tnL od) fr (tnL od fr - mv)) to (va_up (tnL od) fr (tnL od fr - mv) to + mv)
noncomputable def sprF (σ : Ab) (pd dg lo te : Rw) (t : Nat) (od : Lw) : Lw := sprL od (frF σ (pd t) t).toNatClampNeg (toF σ (pd t) t).toNatClampNeg (mvF σ pd dg lo te t od)
noncomputable def spI (σ : Ab) (pd dg lo te : Rw) (od : Lw) : Nat → Lw
  | 0 => od
  | t + 1 => sprF σ pd dg lo te t (spI σ pd dg lo te od t)
noncomputable def chO (σ : Ab) (δ : Dy) (od : Lw) : Nat → Lw × Rw
  | 0 => (od, yl δ)
  | n + 1 => (spI σ (yq δ) (yd δ) (chO σ δ od n).2 (yt δ) (chO σ δ od n).1 (zN σ), lapF (chO σ δ od n).2)
def od0 (p : Int32) : Lw := fun h => if nI h = p then 1 else 0
def tenK : Nat → Int64
  | 0 => 1
  | n + 1 => tenK n * 10
theorem tenK_ne : ∀ n, n < 17 → ¬ tenK n = 0 := by decide +kernel
noncomputable def chaR (σ : Ab) (δ : Dy) (s m h p : Int32) : Int64 := if (0 ≤ s ∧ s < nI (zS σ)) ∧ 0 ≤ h ∧ h < 8 then (if (1 ≤ m ∧ m ≤ 2) ∧ 0 ≤ p ∧ p ≤ 1 then (if zN σ = 0 then -103 else (if p = 0 then (chO σ δ (od0 (yp δ s.toNatClampNeg)) m.toNatClampNeg).1 h.toNatClampNeg else tenK (m.toNatClampNeg * zN σ)) / (euP 200 (tenK (m.toNatClampNeg * zN σ)) ((chO σ δ (od0 (yp δ s.toNatClampNeg)) m.toNatClampNeg).1 h.toNatClampNeg)).1) else -102) else -101
theorem mvF_1 {σ : Ab} {pd dg lo te : Rw} {t : Nat} {od : Lw} (h : takB (zk σ t) (dg (frF σ (pd t) t).toNatClampNeg) (lo (frF σ (pd t) t).toNatClampNeg)) : mvF σ pd dg lo te t od = od (frF σ (pd t) t).toNatClampNeg * (te t).toInt64 := by unfold mvF; rw [if_pos h]
theorem mvF_0 {σ : Ab} {pd dg lo te : Rw} {t : Nat} {od : Lw} (h : ¬ takB (zk σ t) (dg (frF σ (pd t) t).toNatClampNeg) (lo (frF σ (pd t) t).toNatClampNeg)) : mvF σ pd dg lo te t od = 0 := by unfold mvF; rw [if_neg h]
theorem most0 {k : Nat} : nI (mostF k) ≤ 0 ↔ k = 3 := by
  unfold mostF
  by_cases h : k = 3
  · simp [h]; decide
  · simp only [h, if_false, iff_false]
    split <;> decide
