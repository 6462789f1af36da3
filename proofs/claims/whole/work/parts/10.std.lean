/-! the cells that the two systems are made of: 0 to 43 the component's, 44 to 58 the reference's; what comes later are thieves -/
def shpL : List Sh := [.inl 8, .inl 4, .inr (0, 40), .inl 5, .inr (0, 8), .inr (0, 8), .inr (0, 8), .inr (0, 8), .inr (3, 8), .inr (0, 8), .inr (0, 8),
  .inl 1, .inr (0, 8), .inr (0, 8), .inr (0, 8), .inr (2, 8), .inr (2, 8), .inr (0, 8),
  .inl 1, .inr (0, 8), .inr (0, 8), .inr (0, 8), .inr (2, 8), .inr (2, 8), .inr (0, 8),
  .inl 1, .inr (0, 8), .inr (0, 8), .inr (0, 8), .inr (2, 8), .inr (2, 8), .inr (0, 8),
  .inr (1, 8), .inr (0, 8), .inr (0, 256), .inr (0, 256), .inl 7, .inl 7, .inl 7, .inl 7, .inl 7, .inl 7, .inl 7, .inl 7,
  .inl 9, .inr (0, 40), .inr (0, 32), .inr (0, 32), .inr (0, 8), .inr (0, 8), .inr (0, 32), .inr (0, 8), .inr (0, 8), .inr (1, 8), .inr (0, 256), .inr (0, 8), .inr (0, 8), .inr (0, 8), .inr (0, 32)]
def rfsL : Nat → List (Option Nat)
  | 0 => [some 1, some 3, some 8, some 9, some 10, some 11, some 18, some 25, some 32, some 33, some 34, some 35]
  | 1 => [some 2]
  | 3 => [some 4, some 5, some 6, some 7]
  | 11 => [some 12, some 13, some 14, some 15, some 16, some 17]
  | 18 => [some 19, some 20, some 21, some 22, some 23, some 24]
  | 25 => [some 26, some 27, some 28, some 29, some 30, some 31]
  | 44 => [some 45, none, some 46, none, none, none, none, some 47, none, some 48, none, none, none, none, some 49, some 50, some 51, some 52, some 53, some 54, some 55, none, none, none, none, none, none, none, some 56, some 57, some 58]
  | _ => []
def rfs (a n : Nat) : Option Nat := ((rfsL a)[n]?).getD none
/-- the kinds of thieves: plain, skilled, brother, honest, master -/
def thK : Nat → Nat
  | 7 => 0
  | 6 => 1
  | 0 => 2
  | 2 => 3
  | _ => 4
def isTh (sh : Sh) : Prop := sh = .inl 7 ∨ sh = .inl 6 ∨ sh = .inl 0 ∨ sh = .inl 2 ∨ sh = .inl 3
def kiS : Sh → Nat
  | .inl ci => thK ci
  | _ => 0
def thi (M : Mm) (t : Nat) : Nat := (mR M 8 t).getD 0
def kdT (M : Mm) (t : Nat) : Nat := kiS (mT M (thi M t))
def St (M : Mm) : Prop := 59 ≤ mN M ∧ (∀ a sh, shpL[a]? = some sh → mT M a = sh) ∧ (∀ a n j, rfs a n = some j → mR M a n = some j) ∧ ∀ t, t < 8 → mR M 8 t = some (thi M t) ∧ 36 ≤ thi M t ∧ ¬ (44 ≤ thi M t ∧ thi M t < 59) ∧ thi M t < mN M ∧ isTh (mT M (thi M t))
theorem St.lt {M : Mm} (h : St M) {a : Nat} (ha : a < 59) : a < mN M := Nat.lt_of_lt_of_le ha h.1
theorem St.pos {M : Mm} (h : St M) : 0 < mN M := Nat.lt_of_lt_of_le (by decide) h.1
theorem St.T {M : Mm} (h : St M) (a : Nat) {sh : Sh} (e : shpL[a]? = some sh) : mT M a = sh := h.2.1 a sh e
theorem St.R {M : Mm} (h : St M) (a n : Nat) {j : Nat} (e : rfs a n = some j) : mR M a n = some j := h.2.2.1 a n j e
/-- the same shape -/
def Sm (M M' : Mm) : Prop := mN M' = mN M ∧ mT M' = mT M ∧ mR M' = mR M
theorem Sm.rf (M : Mm) : Sm M M := ⟨rfl, rfl, rfl⟩
theorem Sm.tr {A B C : Mm} (h : Sm A B) (k : Sm B C) : Sm A C := ⟨k.1.trans h.1, k.2.1.trans h.2.1, k.2.2.trans h.2.2⟩
theorem Sm.ti {M M' : Mm} (h : Sm M M') (t : Nat) : thi M' t = thi M t := by unfold thi; rw [h.2.2]
theorem Sm.kd {M M' : Mm} (h : Sm M M') (t : Nat) : kdT M' t = kdT M t := by unfold kdT; rw [h.ti, h.2.1]
theorem St.sm {M M' : Mm} (h : St M) (k : Sm M M') : St M' := by
  refine ⟨by rw [k.1]; exact h.1, fun a sh e => by rw [k.2.1]; exact h.2.1 a sh e, fun a n j e => by rw [k.2.2]; exact h.2.2.1 a n j e, fun t ht => ?_⟩
  rw [k.ti, k.2.2, k.2.1, k.1]
  exact h.2.2.2 t ht
/-- nothing has changed but the ints of these cells, the longs of those -/
def Fr (is ls : List Nat) (M M' : Mm) : Prop := Sm M M' ∧ (∀ a, a ∉ is → mI M' a = mI M a) ∧ (∀ a, a ∉ ls → mL M' a = mL M a)
theorem Fr.rf (is ls : List Nat) (M : Mm) : Fr is ls M M := ⟨Sm.rf M, fun _ _ => rfl, fun _ _ => rfl⟩
theorem Fr.tr {is ls : List Nat} {A B C : Mm} (h : Fr is ls A B) (k : Fr is ls B C) : Fr is ls A C := ⟨h.1.tr k.1, fun a ha => (k.2.1 a ha).trans (h.2.1 a ha), fun a ha => (k.2.2 a ha).trans (h.2.2 a ha)⟩
theorem Fr.mono {is ls is' ls' : List Nat} {A B : Mm} (h : Fr is ls A B) (hi : ∀ a ∈ is, a ∈ is') (hl : ∀ a ∈ ls, a ∈ ls') : Fr is' ls' A B := ⟨h.1, fun a ha => h.2.1 a (fun q => ha (hi a q)), fun a ha => h.2.2 a (fun q => ha (hl a q))⟩
theorem Fr.sI {is ls : List Nat} {A B : Mm} (h : Fr is ls A B) {a k : Nat} {v : Int32} (ha : a ∈ is) : Fr is ls A (sI B a k v) := ⟨h.1, fun b hb => (mI_sI_ne (fun q => hb (by rw [q]; exact ha))).trans (h.2.1 b hb), h.2.2⟩
theorem Fr.sL {is ls : List Nat} {A B : Mm} (h : Fr is ls A B) {a k : Nat} {v : Int64} (ha : a ∈ ls) : Fr is ls A (sL B a k v) := ⟨h.1, h.2.1, fun b hb => (mL_sL_ne (fun q => hb (by rw [q]; exact ha))).trans (h.2.2 b hb)⟩
theorem St.fr {is ls : List Nat} {M M' : Mm} (h : St M) (k : Fr is ls M M') : St M' := h.sm k.1
/-! indices -/
def ixOK (i : Int32) (j n : Nat) : Prop := vp_in i n ∧ i.toNatClampNeg = j
theorem ix_nI {j n : Nat} (h : j < n) (hn : n < 2 ^ 31) : ixOK (nI j) j n := ⟨vp_in_nI h hn, nI_clamp (Nat.lt_trans h hn)⟩
theorem ix_of {i : Int32} {j n : Nat} (e : i = nI j) (h : j < n) (hn : n < 2 ^ 31) : ixOK i j n := by rw [e]; exact ix_nI h hn
theorem ix_lt {i : Int32} {j n : Nat} (h : ixOK i j n) : j < n := by
  have := h.1
  rw [vp_in, h.2] at this
  omega
/-- a number that a Java test leaves between 0 and n -/
theorem ix_ex {i : Int32} {n : Nat} (hn : n < 2 ^ 31) (h0 : 0 ≤ i) (h1 : i < nI n) : ∃ j, j < n ∧ i = nI j := by
  obtain ⟨j, hj, e⟩ := nI_of (x := i) (by rw [Int32.not_lt]; exact h0)
  refine ⟨j, ?_, e⟩
  rw [e] at h1
  exact (nI_ltI hj hn).mp h1
section IxRows
variable {x : Cx} {g : Gx} {y : MethodName} {cc : ByteArray} {nL : Nat} {ret : Option FieldType} {R : Room} {Q : State → Prop} {k sl : Nat} {M : Mm} {pc : Nat} {lv : Lv} {rest : List Value}
theorem r_ial {a n j : Nat} {i : Int32} (hT : mT M a = .inr (0, n)) (ha : a < mN M) (hi : ixOK i j n) (d : decode cc pc = .ok (.iaload, 1)) (kk : Vj x g y cc nL ret R Q k sl M (pc + 1) lv (.int (mI M a j) :: rest)) : Vj x g y cc nL ret R Q k sl M pc lv (.int i :: .ref (g.1 + a) :: rest) := r_iaload hT ha hi.1 d (by rw [hi.2]; exact kk)
theorem r_zal {a n j : Nat} {i : Int32} (hT : mT M a = .inr (2, n)) (ha : a < mN M) (hi : ixOK i j n) (d : decode cc pc = .ok (.baload, 1)) (kk : Vj x g y cc nL ret R Q k sl M (pc + 1) lv (.int (mI M a j) :: rest)) : Vj x g y cc nL ret R Q k sl M pc lv (.int i :: .ref (g.1 + a) :: rest) := r_zaload hT ha hi.1 d (by rw [hi.2]; exact kk)
theorem r_lal {a n j : Nat} {i : Int32} (hT : mT M a = .inr (1, n)) (ha : a < mN M) (hi : ixOK i j n) (d : decode cc pc = .ok (.laload, 1)) (kk : Vj x g y cc nL ret R Q k sl M (pc + 1) lv (.long (mL M a j) :: rest)) : Vj x g y cc nL ret R Q k sl M pc lv (.int i :: .ref (g.1 + a) :: rest) := r_laload hT ha hi.1 d (by rw [hi.2]; exact kk)
theorem r_aal {a n j t : Nat} {i : Int32} (hT : mT M a = .inr (3, n)) (ha : a < mN M) (hi : ixOK i t n) (hR : mR M a t = some j) (d : decode cc pc = .ok (.aaload, 1)) (kk : Vj x g y cc nL ret R Q k sl M (pc + 1) lv (.ref (g.1 + j) :: rest)) : Vj x g y cc nL ret R Q k sl M pc lv (.int i :: .ref (g.1 + a) :: rest) := r_aaload hT ha hi.1 (by rw [hi.2]; exact hR) d kk
theorem r_ias {a n j : Nat} {i v : Int32} (hT : mT M a = .inr (0, n)) (ha : a < mN M) (hi : ixOK i j n) (d : decode cc pc = .ok (.iastore, 1)) (kk : Vj x g y cc nL ret R Q k sl (sI M a j v) (pc + 1) lv rest) : Vj x g y cc nL ret R Q k sl M pc lv (.int v :: .int i :: .ref (g.1 + a) :: rest) := r_iastore hT ha hi.1 d (by rw [hi.2]; exact kk)
theorem r_zas {a n j : Nat} {i v : Int32} (hT : mT M a = .inr (2, n)) (ha : a < mN M) (hi : ixOK i j n) (hv : v = 0 ∨ v = 1) (d : decode cc pc = .ok (.bastore, 1)) (kk : Vj x g y cc nL ret R Q k sl (sI M a j v) (pc + 1) lv rest) : Vj x g y cc nL ret R Q k sl M pc lv (.int v :: .int i :: .ref (g.1 + a) :: rest) := r_zastore hT ha hi.1 (by rcases hv with h | h <;> rw [h] <;> rfl) d (by rw [hi.2]; exact kk)
theorem r_las {a n j : Nat} {i : Int32} {v : Int64} (hT : mT M a = .inr (1, n)) (ha : a < mN M) (hi : ixOK i j n) (d : decode cc pc = .ok (.lastore, 1)) (kk : Vj x g y cc nL ret R Q k sl (sL M a j v) (pc + 1) lv rest) : Vj x g y cc nL ret R Q k sl M pc lv (.long v :: .int i :: .ref (g.1 + a) :: rest) := r_lastore hT ha hi.1 d (by rw [hi.2]; exact kk)
theorem r_aas {a n j v ci : Nat} {i : Int32} {r : vw_C} (hT : mT M a = .inr (3, n)) (ha : a < mN M) (hv : v < mN M) (hTv : mT M v = .inl ci) (hc : vwCl[ci]? = some r) (hca : r.1 = RX7 ∨ (r.1, RX7) ∈ caP) (hi : ixOK i j n) (d : decode cc pc = .ok (.aastore, 1)) (kk : Vj x g y cc nL ret R Q k sl (sR M a j (some v)) (pc + 1) lv rest) : Vj x g y cc nL ret R Q k sl M pc lv (.ref (g.1 + v) :: .int i :: .ref (g.1 + a) :: rest) := r_aastore hT ha hv hTv hc hca hi.1 d (by rw [hi.2]; exact kk)
theorem nar_bool {v : Int32} (h : v = 0 ∨ v = 1) : narrow .boolean (.int v) = .int v := by rcases h with h | h <;> rw [h] <;> rfl
end IxRows
