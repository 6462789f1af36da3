/-! letters of a page, contracts as a text -/
def byN (v : Int64) (k : Nat) : Nat := v.toUInt64.toNat / 256 ^ k % 256
def cnB (v : Int64) : Nat → Nat
  | 0 => 0
  | k + 1 => cnB v k + (if byN v k = 0 then 0 else 1)
def okB (v : Int64) (k : Nat) : Prop := byN v k ≤ 126 ∧ (byN v k = 0 ∨ cnB v k = k)
def gdB (v : Int64) : Prop := ∀ k, k < 8 → okB v k
theorem cnB_le (v : Int64) : ∀ k, cnB v k ≤ k
  | 0 => Nat.le_refl 0
  | k + 1 => by rw [cnB]; have := cnB_le v k; split <;> omega
theorem byN_lt (v : Int64) (k : Nat) : byN v k < 256 := Nat.mod_lt _ (by decide)
noncomputable def letR (v : Int64) (pn : Nat) : Int32 := by
  classical exact if gdB v then (if pn + cnB v 8 ≤ 40 then nI (pn + cnB v 8) else -104) else -102
noncomputable def letN (v : Int64) (pn : Nat) : Nat := by
  classical exact if gdB v ∧ pn + cnB v 8 ≤ 40 then pn + cnB v 8 else pn
def letG (v : Int64) (pn : Nat) (pg : Rw) : Rw := fun k => if k < pn then pg k else nI (byN v (k - pn))
def kdC (c : Int32) : Nat := if c = 115 then 1 else if c = 98 then 2 else if c = 104 then 3 else if c = 109 then 4 else 0
abbrev Ps : Type := Nat × Nat × Rw
def psT (c : Int32) (q : Ps) : Option Ps :=
  if q.1 = 0 then (if kdC c = 0 then (if 0 ≤ c - 48 ∧ c - 48 < 8 then some (2, q.2.1, va_up (va_up q.2.2 (4 * q.2.1) 0) (4 * q.2.1 + 1) (c - 48)) else none) else some (1, q.2.1, va_up q.2.2 (4 * q.2.1) (nI (kdC c))))
  else if q.1 = 1 then (if 0 ≤ c - 48 ∧ c - 48 < 8 then some (2, q.2.1, va_up q.2.2 (4 * q.2.1 + 1) (c - 48)) else none)
  else if q.1 = 2 then (if (0 ≤ c - 48 ∧ c - 48 < 8) ∧ ¬ c - 48 = q.2.2 (4 * q.2.1 + 1) then some (3, q.2.1, va_up q.2.2 (4 * q.2.1 + 2) (c - 48)) else none)
  else if q.1 = 3 then (if 0 ≤ c - 48 ∧ c - 48 ≤ 9 then some (4, q.2.1 + 1, va_up q.2.2 (4 * q.2.1 + 3) (c - 48)) else none)
  else (if c = 44 ∧ q.2.1 < 8 then some (0, q.2.1, q.2.2) else none)
def psR (pg : Rw) : Nat → Option Ps
  | 0 => some (0, 0, fun _ => 0)
  | k + 1 => (psR pg k).bind (psT (pg k))
def limP (q : Ps) : Nat := 4 * q.2.1 + (if q.1 = 4 then 0 else q.1)
def entP (j : Nat) (v : Int32) : Prop := (j % 4 = 0 → ∃ κ, κ < 5 ∧ v = nI κ) ∧ (j % 4 = 1 → hs8 v) ∧ (j % 4 = 2 → hs8 v) ∧ (j % 4 = 3 → 0 ≤ v ∧ v ≤ 9)
def PW (q : Ps) : Prop := q.1 ≤ 4 ∧ (q.1 = 4 → 1 ≤ q.2.1 ∧ q.2.1 ≤ 8) ∧ (¬ q.1 = 4 → q.2.1 < 8) ∧ ∀ j, j < limP q → entP j (q.2.2 j)
theorem kdC_lt (c : Int32) : kdC c < 5 := by unfold kdC; split <;> (try split) <;> (try split) <;> (try split) <;> decide
theorem hs8_of {v : Int32} (h : 0 ≤ v ∧ v < 8) : hs8 v := hoB_ex h
theorem entP_up {rw' : Rw} {L j : Nat} {v : Int32} (h : ∀ j, j < L → entP j (rw' j)) (hv : entP L v) (hj : j < L + 1) : entP j (va_up rw' L v j) := by
  rw [va_up_if]
  split
  · next e => rw [e]; exact hv
  · exact h j (by omega)
theorem PW.step {c : Int32} {q q' : Ps} (h : PW q) (e : psT c q = some q') : PW q' := by
  obtain ⟨st, n, rw'⟩ := q
  obtain ⟨h1, h2, h3, h4⟩ := h
  have h1 : st ≤ 4 := h1
  unfold psT at e
  rcases (show st = 0 ∨ st = 1 ∨ st = 2 ∨ st = 3 ∨ st = 4 by omega) with z | z | z | z | z <;> subst z
  · have hn : n < 8 := h3 (by simp)
    have h4 : ∀ j, j < 4 * n + 0 → entP j (rw' j) := h4
    simp only [if_true] at e
    split at e
    · split at e
      · next hd =>
        cases e
        refine ⟨by simp, fun z => absurd z (by simp), fun _ => hn, fun j hj => ?_⟩
        refine entP_up (L := 4 * n + 1) (fun j hj => entP_up h4 ⟨fun _ => ⟨0, by decide, rfl⟩, fun z => by omega, fun z => by omega, fun z => by omega⟩ hj) ⟨fun z => by omega, fun _ => hs8_of hd, fun z => by omega, fun z => by omega⟩ hj
      · cases e
    · cases e
      refine ⟨by simp, fun z => absurd z (by simp), fun _ => hn, fun j hj => ?_⟩
      exact entP_up h4 ⟨fun _ => ⟨kdC c, kdC_lt c, rfl⟩, fun z => by omega, fun z => by omega, fun z => by omega⟩ hj
  · have hn : n < 8 := h3 (by simp)
    simp at e
    obtain ⟨hd, e⟩ := e
    subst e
    refine ⟨by simp, fun z => absurd z (by simp), fun _ => hn, fun j hj => ?_⟩
    exact entP_up (L := 4 * n + 1) h4 ⟨fun z => by omega, fun _ => hs8_of hd, fun z => by omega, fun z => by omega⟩ hj
  · have hn : n < 8 := h3 (by simp)
    simp at e
    obtain ⟨hd, e⟩ := e
    subst e
    refine ⟨by simp, fun z => absurd z (by simp), fun _ => hn, fun j hj => ?_⟩
    exact entP_up (L := 4 * n + 2) h4 ⟨fun z => by omega, fun z => by omega, fun _ => hs8_of hd.1, fun z => by omega⟩ hj
  · have hn : n < 8 := h3 (by simp)
    simp at e
    obtain ⟨hd, e⟩ := e
    subst e
    refine ⟨by simp, fun _ => ⟨by show 1 ≤ n + 1; omega, by show n + 1 ≤ 8; omega⟩, fun z => absurd rfl z, fun j hj => ?_⟩
    exact entP_up (L := 4 * n + 3) h4 ⟨fun z => by omega, fun z => by omega, fun z => by omega, fun _ => hd⟩ (by have : j < 4 * (n + 1) + 0 := hj; omega)
  · simp at e
    obtain ⟨hd, e⟩ := e
    subst e
    exact ⟨by simp, fun z => absurd z (by simp), fun _ => hd.2, fun j hj => h4 j hj⟩
theorem psR_PW {pg : Rw} : ∀ {k : Nat} {q : Ps}, psR pg k = some q → PW q
  | 0, q, h => by
    cases h
    exact ⟨by decide, fun z => absurd z (by decide), fun _ => by decide, fun j hj => absurd hj (Nat.not_lt_zero j)⟩
  | k + 1, q, h => by
    rw [psR] at h
    cases hq : psR pg k with
    | none => rw [hq] at h; cases h
    | some p =>
      rw [hq] at h
      exact (psR_PW hq).step h
theorem psR_s {pg : Rw} {k : Nat} {q q' : Ps} (h : psR pg k = some q) (e : psT (pg k) q = some q') : psR pg (k + 1) = some q' := by
  rw [psR, h]; exact e
/-- the place where reading stops -/
def flP (pg : Rw) (pn k : Nat) : Prop := k ≤ pn ∧ ∃ q, psR pg k = some q ∧ (k < pn → psT (pg k) q = none)
theorem psR_none {pg : Rw} {k : Nat} (h : psR pg k = none) : ∀ m, psR pg (k + m) = none
  | 0 => h
  | m + 1 => by rw [← Nat.add_assoc, psR, psR_none h m]; rfl
theorem flP_lt {pg : Rw} {pn k l : Nat} (h1 : flP pg pn k) (h2 : flP pg pn l) : ¬ k < l := by
  intro h
  obtain ⟨a1, q, a2, a3⟩ := h1
  obtain ⟨b1, p, b2, b3⟩ := h2
  have e : psR pg (k + 1) = none := by rw [psR, a2]; exact a3 (by omega)
  have := psR_none e (l - (k + 1))
  rw [show k + 1 + (l - (k + 1)) = l by omega, b2] at this
  cases this
theorem flP_inj {pg : Rw} {pn k l : Nat} (h1 : flP pg pn k) (h2 : flP pg pn l) : k = l := by
  have := flP_lt h1 h2
  have := flP_lt h2 h1
  omega
/-- the component's reader stands so -/
def PC (M : Mm) (q : Ps) : Prop := mI M 3 5 = nI q.1 ∧ mI M 3 4 = nI q.2.1 ∧ ∀ i c, c < 4 → 4 * i + c < limP q → mI M (4 + c) i = q.2.2 (4 * i + c)
def PRr (M : Mm) (q : Ps) : Prop := mI M 44 4 = nI q.1 ∧ mI M 44 3 = nI q.2.1 ∧ ∀ j, j < limP q → mI M 46 j = q.2.2 j
