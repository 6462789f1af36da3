/-! what months do, as functions of rows of numbers -/
abbrev Rw : Type := Nat → Int32
/-- a city that stays: how many thieves, how many spoons; of each thief kind, payer, robbed, fee; of each spoon its worth and owner -/
abbrev Ab : Type := Nat × Nat × (Nat → Nat) × Rw × Rw × Rw × Rw × Rw
def zN (σ : Ab) : Nat := σ.1
def zS (σ : Ab) : Nat := σ.2.1
def zk (σ : Ab) : Nat → Nat := σ.2.2.1
def zp (σ : Ab) : Rw := σ.2.2.2.1
def zr (σ : Ab) : Rw := σ.2.2.2.2.1
def zf (σ : Ab) : Rw := σ.2.2.2.2.2.1
def zw (σ : Ab) : Rw := σ.2.2.2.2.2.2.1
def zo (σ : Ab) : Rw := σ.2.2.2.2.2.2.2
def hs8 (v : Int32) : Prop := ∃ j : Nat, j < 8 ∧ v = nI j
def Wf (σ : Ab) : Prop := zN σ ≤ 8 ∧ zS σ ≤ 8 ∧ (∀ t, t < zN σ → zk σ t < 5 ∧ hs8 (zp σ t) ∧ hs8 (zr σ t) ∧ 0 ≤ zf σ t ∧ zf σ t ≤ 9) ∧ ∀ s, s < zS σ → 1 ≤ zw σ s ∧ zw σ s ≤ 99 ∧ hs8 (zo σ s)
/-- the component's cells hold this city -/
def CV1 (σ : Ab) (M : Mm) : Prop := mI M 0 12 = nI (zN σ) ∧ mI M 0 13 = nI (zS σ) ∧ (∀ t, t < zN σ → kdT M t = zk σ t ∧ mI M (thi M t) 0 = zp σ t ∧ mI M (thi M t) 1 = zr σ t ∧ mI M (thi M t) 2 = zf σ t) ∧ ∀ s, s < zS σ → mI M 9 s = zw σ s ∧ mI M 10 s = zo σ s
/-- the reference's cells hold this city -/
def RV1 (σ : Ab) (M : Mm) : Prop := mI M 44 5 = nI (zN σ) ∧ mI M 44 10 = nI (zS σ) ∧ (∀ t, t < zN σ → mI M 47 (4 * t) = nI (zk σ t) ∧ mI M 47 (4 * t + 1) = zp σ t ∧ mI M 47 (4 * t + 2) = zr σ t ∧ mI M 47 (4 * t + 3) = zf σ t) ∧ ∀ s, s < zS σ → mI M 50 (4 * s) = zw σ s ∧ mI M 50 (4 * s + 1) = zo σ s
def likes (k : Nat) (a b : Int32) : Bool := if k = 2 then decide (a < b) else decide (b < a)
def pickF (k : Nat) (wo ps : Rw) (h : Int32) : Nat → Int32
  | 0 => -1
  | s + 1 => if ps s = h ∧ (pickF k wo ps h s = -1 ∨ likes k (wo s) (wo (pickF k wo ps h s).toNatClampNeg) = true) then nI s else pickF k wo ps h s
def mostF (k : Nat) : Nat := if k = 3 then 0 else if k = 1 ∨ k = 4 then 2 else 1
def takeF (k : Nat) (wo : Rw) (S : Nat) (fr to : Int32) : Nat → Rw → Int32 × Rw
  | 0, ps => (0, ps)
  | n + 1, ps => if pickF k wo ps fr S = -1 then (0, ps) else ((takeF k wo S fr to n (va_up ps (pickF k wo ps fr S).toNatClampNeg to)).1 + 1, (takeF k wo S fr to n (va_up ps (pickF k wo ps fr S).toNatClampNeg to)).2)
def frF (σ : Ab) (pd : Int32) (t : Nat) : Int32 := if pd = 0 then zp σ t else zr σ t
def toF (σ : Ab) (pd : Int32) (t : Nat) : Int32 := if pd = 0 then zr σ t else zp σ t
def outF (k : Nat) (dg lo : Int32) : Prop := ¬ dg = 0 ∨ (¬ k = 4 ∧ 0 < lo)
noncomputable def visitF (σ : Ab) (pd dg lo : Rw) (t : Nat) (ps : Rw) : Int32 × Rw := by
  classical exact if outF (zk σ t) (dg (frF σ (pd t) t).toNatClampNeg) (lo (frF σ (pd t) t).toNatClampNeg) then (0, ps) else takeF (zk σ t) (zw σ) (zS σ) (frF σ (pd t) t) (toF σ (pd t) t) (mostF (zk σ t)) ps
noncomputable def passF (σ : Ab) (pd dg lo : Rw) (cm : Nat → Prop) (ps : Rw) : Nat → Int32 × Rw := by
  classical exact fun n => Nat.rec (0, ps) (fun t q => if cm t then (q.1 + (visitF σ pd dg lo t q.2).1, (visitF σ pd dg lo t q.2).2) else q) n
def lapF (lo : Rw) : Rw := fun h => if h < 8 then (if 0 < lo h then lo h - 1 else 0) else lo h
theorem passF_0 (σ : Ab) (pd dg lo : Rw) (cm : Nat → Prop) (ps : Rw) : passF σ pd dg lo cm ps 0 = (0, ps) := rfl
theorem passF_s1 {σ : Ab} {pd dg lo : Rw} {cm : Nat → Prop} {ps : Rw} {t : Nat} (h : cm t) : passF σ pd dg lo cm ps (t + 1) = ((passF σ pd dg lo cm ps t).1 + (visitF σ pd dg lo t (passF σ pd dg lo cm ps t).2).1, (visitF σ pd dg lo t (passF σ pd dg lo cm ps t).2).2) := by
  classical
  show (if cm t then _ else _) = _
  rw [if_pos h]
  rfl
theorem passF_s0 {σ : Ab} {pd dg lo : Rw} {cm : Nat → Prop} {ps : Rw} {t : Nat} (h : ¬ cm t) : passF σ pd dg lo cm ps (t + 1) = passF σ pd dg lo cm ps t := by
  classical
  show (if cm t then _ else _) = _
  rw [if_neg h]
  rfl
theorem visitF_1 {σ : Ab} {pd dg lo : Rw} {t : Nat} {ps : Rw} (h : outF (zk σ t) (dg (frF σ (pd t) t).toNatClampNeg) (lo (frF σ (pd t) t).toNatClampNeg)) : visitF σ pd dg lo t ps = (0, ps) := by
  unfold visitF
  rw [if_pos h]
theorem visitF_0 {σ : Ab} {pd dg lo : Rw} {t : Nat} {ps : Rw} (h : ¬ outF (zk σ t) (dg (frF σ (pd t) t).toNatClampNeg) (lo (frF σ (pd t) t).toNatClampNeg)) : visitF σ pd dg lo t ps = takeF (zk σ t) (zw σ) (zS σ) (frF σ (pd t) t) (toF σ (pd t) t) (mostF (zk σ t)) ps := by
  unfold visitF
  rw [if_neg h]
theorem pickF_some {k : Nat} {wo ps : Rw} {h : Int32} : ∀ (s : Nat), pickF k wo ps h s = -1 ∨ ∃ j, j < s ∧ pickF k wo ps h s = nI j
  | 0 => Or.inl rfl
  | s + 1 => by
    unfold pickF
    split
    · exact Or.inr ⟨s, by omega, rfl⟩
    · rcases pickF_some (k := k) (wo := wo) (ps := ps) (h := h) s with e | ⟨j, hj, e⟩
      · exact Or.inl e
      · exact Or.inr ⟨j, by omega, e⟩
theorem frF_8 {σ : Ab} (w : Wf σ) {t : Nat} (ht : t < zN σ) (pd : Int32) : hs8 (frF σ pd t) := by
  unfold frF
  split
  · exact (w.2.2.1 t ht).2.1
  · exact (w.2.2.1 t ht).2.2.1
theorem toF_8 {σ : Ab} (w : Wf σ) {t : Nat} (ht : t < zN σ) (pd : Int32) : hs8 (toF σ pd t) := by
  unfold toF
  split
  · exact (w.2.2.1 t ht).2.2.1
  · exact (w.2.2.1 t ht).2.1
theorem nI_ne_m1 {j : Nat} (h : j < 2 ^ 31) : ¬ nI j = -1 := by
  intro e
  have h1 := nI_pos' h
  rw [e] at h1
  exact absurd h1 (by decide)
theorem nI_mul (a b : Nat) : nI a * nI b = nI (a * b) := by unfold nI; rw [Int32.ofNat_mul]
theorem nI_4 (t c : Nat) : (4 : Int32) * nI t + nI c = nI (4 * t + c) := by
  rw [show (4 : Int32) = nI 4 from rfl, nI_mul, nI_add]
theorem nI_40 (t : Nat) : (4 : Int32) * nI t = nI (4 * t) := by
  rw [show (4 : Int32) = nI 4 from rfl, nI_mul]
section ThRow
variable {x : Cx} {g : Gx} {y : MethodName} {cc : ByteArray} {nL : Nat} {ret : Option FieldType} {R : Room} {Q : State → Prop} {k sl : Nat} {M : Mm} {pc : Nat} {lv : Lv} {rest : List Value}
theorem r_getTh {a n idx : Nat} (f7 : FL y.cls idx 7 n) (f6 : FL y.cls idx 6 n) (f0 : FL y.cls idx 0 n) (f2 : FL y.cls idx 2 n) (f3 : FL y.cls idx 3 n) (hn : n < 3) (ha : a < mN M) (ht : isTh (mT M a)) (d : decode cc pc = .ok (.getfield idx, 3)) (kk : Vj x g y cc nL ret R Q k sl M (pc + 3) lv (.int (mI M a n) :: rest)) : Vj x g y cc nL ret R Q k sl M pc lv (.ref (g.1 + a) :: rest) := by
  have hk : ∀ ci, ci = 7 ∨ ci = 6 ∨ ci = 0 ∨ ci = 2 ∨ ci = 3 → (fkd ci)[n]? = some 0 := by
    intro ci hci
    rcases hci with h | h | h | h | h <;> rw [h] <;> (rcases (show n = 0 ∨ n = 1 ∨ n = 2 by omega) with h | h | h <;> rw [h] <;> rfl)
  rcases ht with h | h | h | h | h
  · exact r_getI f7 (hk 7 (by simp)) ha h d kk
  · exact r_getI f6 (hk 6 (by simp)) ha h d kk
  · exact r_getI f0 (hk 0 (by simp)) ha h d kk
  · exact r_getI f2 (hk 2 (by simp)) ha h d kk
  · exact r_getI f3 (hk 3 (by simp)) ha h d kk
end ThRow
