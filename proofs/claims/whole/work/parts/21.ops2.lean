theorem and1 (x : Int32) : b01 (x &&& 1) := by
  have h : x &&& 1 = 0 ∨ x &&& 1 = 1 := by
    have hb : (x.toBitVec &&& 1#32) = 0#32 ∨ (x.toBitVec &&& 1#32) = 1#32 := by
      generalize x.toBitVec = b
      rcases Nat.mod_two_eq_zero_or_one b.toNat with e | e
      · left; apply BitVec.eq_of_toNat_eq; simp [BitVec.toNat_and, Nat.and_one_is_mod, e]
      · right; apply BitVec.eq_of_toNat_eq; simp [BitVec.toNat_and, Nat.and_one_is_mod, e]
    rcases hb with e | e
    · left; apply Int32.toBitVec_inj.mp; simpa using e
    · right; apply Int32.toBitVec_inj.mp; simpa using e
  exact h
def bitI (v : Int32) (t : Nat) : Int32 := v >>> (nI t &&& 31) &&& 1
theorem bit01 (v : Int32) (t : Nat) : b01 (bitI v t) := and1 _
/-- fees so far -/
def feeF (σ : Ab) (δ : Dy) : Nat → Int32
  | 0 => yf δ
  | n + 1 => feeF σ δ n + (if yq δ n = 0 then 0 else zf σ n)
noncomputable def monP (σ : Ab) (δ : Dy) : Int32 × Rw := passF σ (yq δ) (yd δ) (yl δ) allT (yp δ) (zN σ)
noncomputable def monR (σ : Ab) (δ : Dy) : Int32 := if zN σ = 0 then -103 else (monP σ δ).1
noncomputable def monD (σ : Ab) (δ : Dy) : Dy := if zN σ = 0 then δ else ((monP σ δ).2, ye δ, lapF (yl δ), yd δ, yq δ, yt δ, ym δ + 1, feeF σ δ (zN σ))
def AS (σ : Ab) (δ : Dy) (cm : Nat → Prop) : Prop := ∀ s, s < zS σ → ye δ s = -1 ∨ ye δ s = (passF σ (yq δ) (yd δ) (yl δ) cm (yp δ) (zN σ)).2 s
theorem AS_congr {σ : Ab} {δ : Dy} {cm cn : Nat → Prop} (h : ∀ t, t < zN σ → (cm t ↔ cn t)) : AS σ δ cm ↔ AS σ δ cn := by unfold AS; rw [passF_congr h]
noncomputable def whoB (σ : Ab) (δ : Dy) : Nat → Int32
  | 0 => by classical exact if AS σ δ allT then 256 else 0
  | t + 1 => by classical exact whoB σ δ t ||| (if AS σ δ (fun u => u ≠ t) then (1 : Int32) <<< (nI t &&& 31) else 0)
noncomputable def whoR (σ : Ab) (δ : Dy) : Int32 := if zN σ = 0 then -103 else whoB σ δ (zN σ)
/-- whose payer is h -/
def orF (σ : Ab) (h : Int32) : Nat → Int32
  | 0 => 0
  | t + 1 => orF σ h t ||| (if zp σ t = h then (1 : Int32) <<< (nI t &&& 31) else 0)
def pdS (σ : Ab) (h set : Int32) (pd : Rw) : Rw := fun t => if zp σ t = h then bitI set t else pd t
def feS (σ : Ab) (h set : Int32) : Nat → Int32 := sumF (fun t => if zp σ t = h then (if bitI set t = 0 then 0 else zf σ t) else 0)
noncomputable def lefF (σ : Ab) (δ : Dy) (h m set : Int32) : Int32 := inH σ (itF σ (pdS σ h set (yq δ)) (yd δ) m.toNatClampNeg (yp δ) (yl δ)).1 h - feS σ h set (zN σ) * m
def popN (k : Nat) : Nat := k % 2 + k / 2 % 2 + k / 4 % 2 + k / 8 % 2 + k / 16 % 2 + k / 32 % 2 + k / 64 % 2 + k / 128 % 2
noncomputable def bsF (σ : Ab) (δ : Dy) (h m : Int32) : Nat → Nat × Int32
  | 0 => (0, -1000000)
  | k + 1 => if (nI k &&& (orF σ h (zN σ) ^^^ -1)) = 0 ∧ ((bsF σ δ h m k).2 < lefF σ δ h m (nI k) ∨ (lefF σ δ h m (nI k) = (bsF σ δ h m k).2 ∧ popN k < popN (bsF σ δ h m k).1)) then (k, lefF σ δ h m (nI k)) else bsF σ δ h m k
noncomputable def whmR (σ : Ab) (δ : Dy) (h m w : Int32) : Int32 := if 0 ≤ h ∧ h < 8 then (if (0 ≤ m ∧ m ≤ 12) ∧ 0 ≤ w ∧ w ≤ 1 then (if zN σ = 0 then -100103 else if w = 0 then (bsF σ δ h m (2 ^ zN σ)).2 else nI (bsF σ δ h m (2 ^ zN σ)).1) else -100102) else -100101
theorem shl1 {n : Nat} (h : n ≤ 8) : (1 : Int32) <<< (nI n &&& 31) = nI (2 ^ n) := by
  rcases (show n = 0 ∨ n = 1 ∨ n = 2 ∨ n = 3 ∨ n = 4 ∨ n = 5 ∨ n = 6 ∨ n = 7 ∨ n = 8 by omega) with e | e | e | e | e | e | e | e | e <;> subst e <;> decide
theorem pow8 {n : Nat} (h : n ≤ 8) : 2 ^ n ≤ 256 := Nat.pow_le_pow_right (by decide) h
theorem sumF_nI {f : Nat → Int32} {B : Nat} : ∀ {n : Nat}, (∀ i, i < n → ∃ a, a ≤ B ∧ f i = nI a) → ∃ A, A ≤ n * B ∧ sumF f n = nI A
  | 0, _ => ⟨0, by omega, rfl⟩
  | n + 1, h => by
    obtain ⟨A, hA, e⟩ := sumF_nI (n := n) (fun i hi => h i (by omega))
    obtain ⟨a, ha, e2⟩ := h n (by omega)
    refine ⟨A + a, by rw [Nat.succ_mul]; omega, ?_⟩
    rw [sumF, e, e2, nI_add]
theorem nI_rng {v : Int32} {n : Nat} (h0 : 0 ≤ v) (h1 : v ≤ nI n) (hn : n < 2 ^ 31 - 1) : ∃ a, a ≤ n ∧ v = nI a := by
  obtain ⟨j, hj, e⟩ := nI_of (x := v) (by rw [Int32.not_lt]; exact h0)
  refine ⟨j, ?_, e⟩
  rw [e] at h1
  exact (nI_leI hj (by omega)).mp h1
theorem inH_nI {σ : Ab} (w : Wf σ) (ps : Rw) (h : Int32) : ∃ A, A ≤ 792 ∧ inH σ ps h = nI A := by
  obtain ⟨A, hA, e⟩ := sumF_nI (f := fun s => if ps s = h then zw σ s else 0) (B := 99) (n := zS σ) (fun i hi => by
    show ∃ a, a ≤ 99 ∧ (if ps i = h then zw σ i else 0) = nI a
    split
    · exact nI_rng (by have := (w.2.2.2 i hi).1; grind) (w.2.2.2 i hi).2.1 (by decide)
    · exact ⟨0, by decide, rfl⟩)
  exact ⟨A, by have := w.2.1; omega, e⟩
theorem feS_nI {σ : Ab} (w : Wf σ) (h set : Int32) : ∃ A, A ≤ 72 ∧ feS σ h set (zN σ) = nI A := by
  obtain ⟨A, hA, e⟩ := sumF_nI (f := fun t => if zp σ t = h then (if bitI set t = 0 then 0 else zf σ t) else 0) (B := 9) (n := zN σ) (fun i hi => by
    show ∃ a, a ≤ 9 ∧ (if zp σ i = h then (if bitI set i = 0 then 0 else zf σ i) else 0) = nI a
    split
    · split
      · exact ⟨0, by decide, rfl⟩
      · exact nI_rng (w.2.2.1 i hi).2.2.2.1 (w.2.2.1 i hi).2.2.2.2 (by decide)
    · exact ⟨0, by decide, rfl⟩)
  exact ⟨A, by have := w.1; omega, e⟩
theorem nI_sub_gt {A C : Nat} (hA : A ≤ 792) (hC : C ≤ 864) : (-1000000 : Int32) < nI A - nI C := by
  have h1 : nI 0 ≤ nI A := nI_le (by omega) (by omega)
  have h2 : nI A ≤ nI 792 := nI_le hA (by decide)
  have h3 : nI 0 ≤ nI C := nI_le (by omega) (by omega)
  have h4 : nI C ≤ nI 864 := nI_le hC (by decide)
  rw [show nI 0 = 0 from rfl] at h1 h3
  rw [show nI 792 = 792 from rfl] at h2
  rw [show nI 864 = 864 from rfl] at h4
  grind
theorem lefF_gt {σ : Ab} (w : Wf σ) (δ : Dy) (h : Int32) {m : Int32} (set : Int32) (hm : 0 ≤ m) (hm2 : m ≤ 12) : (-1000000 : Int32) < lefF σ δ h m set := by
  obtain ⟨A, hA, eA⟩ := inH_nI w (itF σ (pdS σ h set (yq δ)) (yd δ) m.toNatClampNeg (yp δ) (yl δ)).1 h
  obtain ⟨B, hB, eB⟩ := feS_nI w h set
  obtain ⟨mm, hmm, em⟩ := nI_rng (n := 12) hm hm2 (by decide)
  rw [lefF, eA, eB, em, nI_mul]
  exact nI_sub_gt hA (by have := Nat.mul_le_mul hB hmm; omega)
theorem bsF_1 {σ : Ab} (w : Wf σ) (δ : Dy) (h : Int32) {m : Int32} (hm : 0 ≤ m) (hm2 : m ≤ 12) : bsF σ δ h m 1 = (0, lefF σ δ h m 0) := by
  rw [bsF, if_pos ⟨by show (0 : Int32) &&& _ = 0; exact Int32.zero_and, Or.inl (lefF_gt w δ h (nI 0) hm hm2)⟩]
  rfl
theorem bsF_inv {σ : Ab} (w : Wf σ) (δ : Dy) (h : Int32) {m : Int32} (hm : 0 ≤ m) (hm2 : m ≤ 12) : ∀ k, 1 ≤ k → (bsF σ δ h m k).1 < k ∧ (bsF σ δ h m k).2 = lefF σ δ h m (nI (bsF σ δ h m k).1)
  | 0, h0 => by omega
  | 1, _ => by rw [bsF_1 w δ h hm hm2]; exact ⟨Nat.one_pos, rfl⟩
  | k + 2, _ => by
    obtain ⟨i1, i2⟩ := bsF_inv w δ h hm hm2 (k + 1) (by omega)
    rw [bsF]
    split
    · exact ⟨by show k + 1 < k + 2; omega, rfl⟩
    · exact ⟨by omega, i2⟩
/-! months by a seed -/
def nxS (v : Int32) : Int32 := ((1103515245 * v.toInt64 + 12345) &&& 2147483647).toInt32
def drT (v : Int32) : Int32 := v / 65536 - v / 65536 / 10 * 10
def sdF (v : Int32) : Nat → Int32
  | 0 => v
  | n + 1 => nxS (sdF v n)
/-- seed, taken, spoons, locks behind so many months -/
noncomputable def msF (σ : Ab) (δ : Dy) (v : Int32) : Nat → Int32 × Int32 × Rw × Rw
  | 0 => (v, 0, yp δ, yl δ)
  | n + 1 => (sdF (msF σ δ v n).1 (zN σ), (msF σ δ v n).2.1 + (passF σ (yq δ) (yd δ) (msF σ δ v n).2.2.2 (fun t => drT (sdF (msF σ δ v n).1 (t + 1)) < yt δ t) (msF σ δ v n).2.2.1 (zN σ)).1, (passF σ (yq δ) (yd δ) (msF σ δ v n).2.2.2 (fun t => drT (sdF (msF σ δ v n).1 (t + 1)) < yt δ t) (msF σ δ v n).2.2.1 (zN σ)).2, lapF (msF σ δ v n).2.2.2)
noncomputable def mosR (σ : Ab) (δ : Dy) (n v w : Int32) : Int32 := if (1 ≤ n ∧ n ≤ 60) ∧ 0 ≤ v ∧ 0 ≤ w ∧ w ≤ 2 then (if zN σ = 0 then -103 else if w = 0 then homF σ (msF σ δ v n.toNatClampNeg).2.2.1 else if w = 1 then (msF σ δ v n.toNatClampNeg).2.1 else (msF σ δ v n.toNatClampNeg).1) else -102
