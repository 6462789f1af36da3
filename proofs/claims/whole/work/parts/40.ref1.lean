/-! the reference -/
theorem lgc_lt {a b : Int64} : lg_cmp a b < 0 ↔ a < b := by
  unfold lg_cmp
  by_cases h1 : a > b
  · simp only [h1, if_true]
    constructor
    · intro h; exact absurd h (by decide)
    · intro h; exfalso; exact Int64.lt_irrefl (Int64.lt_trans h h1)
  · by_cases h2 : a = b
    · subst h2; simp
    · simp only [h1, h2, if_false]
      constructor
      · intro _; exact Int64.lt_of_le_of_ne (Int64.not_lt.mp h1) h2
      · intro _; decide
theorem lgc_gt {a b : Int64} : 0 < lg_cmp a b ↔ b < a := by
  by_cases h1 : b < a
  · have e : lg_cmp a b = 1 := by unfold lg_cmp; rw [if_pos h1]
    rw [e]
    exact ⟨fun _ => h1, fun _ => by decide⟩
  · have e : lg_cmp a b ≤ 0 := by
      unfold lg_cmp
      rw [if_neg h1]
      split <;> decide
    exact ⟨fun h => absurd h (Int32.not_lt.mpr e), fun h => absurd h h1⟩
theorem i2l_le {a b : Int32} : a.toInt64 ≤ b.toInt64 ↔ a ≤ b := by rw [Int64.le_iff_toInt_le, Int32.le_iff_toInt_le, Int32.toInt_toInt64, Int32.toInt_toInt64]
theorem in_int {v lo hi : Int32} : ((lo.toInt64 ≤ v.toInt64 ∧ v.toInt64 ≤ hi.toInt64) ↔ (lo ≤ v ∧ v ≤ hi)) := by rw [i2l_le, i2l_le]
theorem le_pred {t : Int32} {n : Nat} (h : n ≤ 8) : (0 ≤ t ∧ t ≤ nI n - 1) ↔ (0 ≤ t ∧ t < nI n) := by
  have h1 : 0 ≤ nI n := nI_pos' (by omega)
  have h2 : nI n ≤ 8 := nI_le (b := 8) h (by decide)
  constructor <;> intro q <;> constructor <;> grind
theorem ite_iff {p q : Prop} [Decidable p] [Decidable q] (h : p ↔ q) : (if p then (1 : Int32) else 0) = if q then 1 else 0 := by
  by_cases hp : p
  · rw [if_pos hp, if_pos (h.mp hp)]
  · rw [if_neg hp, if_neg (fun z => hp (h.mpr z))]
theorem ix4 {t c n : Nat} (h : 4 * t + c < n) (hn : n < 2 ^ 31) : ixOK ((4 : Int32) * nI t + nI c) (4 * t + c) n := ix_of (nI_4 t c) h hn
theorem ix40 {t n : Nat} (h : 4 * t < n) (hn : n < 2 ^ 31) : ixOK ((4 : Int32) * nI t) (4 * t) n := ix_of (nI_40 t) h hn
def rmX9_in : Room := { frames := 0, cells := 0, slots := 0, locals := 0 }
set_option maxHeartbeats 4000000 in
set_option maxRecDepth 100000 in
theorem kX9_in (g : Gx) (M : Mm) (p q s : Int64) : Ct g yX9_in cX9_in 6 (Option.some FieldType.boolean) rmX9_in [.long p, .long q, .long s] M (pI fun r M' => M' = M ∧ r = (if q ≤ p ∧ p ≤ s then 1 else 0)) := by
  refine Ct.of rfl (Nat.le_of_ble_eq_true rfl) (fun x => ?_)
  refine r_lload_n dX9_in_0 rfl ?_
  refine r_lload_n dX9_in_1 rfl ?_
  refine r_lcmp dX9_in_2 ?_
  refine r_if_lt 17 dX9_in_3 (by decide) (fun c3 => ?_) (fun c3 => ?_)
  · skip
    rw [lgc_lt] at c3
    refine r_iconst (v := 0) dX9_in_17 (by decide) ?_
    exact r_zret (nar_bool (by simp)) dX9_in_18 ⟨_, rfl, rfl, by first | rw [if_neg (fun z => absurd c3 (Int64.not_lt.mpr z.1))] | rw [if_neg (fun z => absurd c10 (Int64.not_lt.mpr z.2))] | rw [if_pos ⟨Int64.not_lt.mp c3, Int64.not_lt.mp c10⟩]⟩
  · skip
    rw [lgc_lt] at c3
    refine r_lload_n dX9_in_6 rfl ?_
    refine r_lload dX9_in_7 rfl ?_
    refine r_lcmp dX9_in_9 ?_
    refine r_if_gt 17 dX9_in_10 (by decide) (fun c10 => ?_) (fun c10 => ?_)
    · skip
      rw [lgc_gt] at c10
      refine r_iconst (v := 0) dX9_in_17 (by decide) ?_
      exact r_zret (nar_bool (by simp)) dX9_in_18 ⟨_, rfl, rfl, by first | rw [if_neg (fun z => absurd c3 (Int64.not_lt.mpr z.1))] | rw [if_neg (fun z => absurd c10 (Int64.not_lt.mpr z.2))] | rw [if_pos ⟨Int64.not_lt.mp c3, Int64.not_lt.mp c10⟩]⟩
    · skip
      rw [lgc_gt] at c10
      refine r_iconst (v := 1) dX9_in_13 (by decide) ?_
      refine r_goto 18 dX9_in_14 (by decide) ?_
      exact r_zret (nar_bool (by simp)) dX9_in_18 ⟨_, rfl, rfl, by first | rw [if_neg (fun z => absurd c3 (Int64.not_lt.mpr z.1))] | rw [if_neg (fun z => absurd c10 (Int64.not_lt.mpr z.2))] | rw [if_pos ⟨Int64.not_lt.mp c3, Int64.not_lt.mp c10⟩]⟩
def rmX9_lacks : Room := { frames := 0, cells := 0, slots := 0, locals := 0 }
set_option maxHeartbeats 4000000 in
set_option maxRecDepth 100000 in
theorem kX9_lacks (g : Gx) (M : Mm) (hs : St M) : Ct g yX9_lacks cX9_lacks 1 (Option.some FieldType.boolean) rmX9_lacks [.ref (g.1 + 44)] M (pI fun r M' => M' = M ∧ r = (if mI M 44 5 = 0 then 1 else 0)) := by
  refine Ct.of rfl (Nat.le_of_ble_eq_true rfl) (fun x => ?_)
  refine r_aload_n dX9_lacks_0 rfl ?_
  refine r_getI flX9_91_9 rfl (hs.lt (by decide)) (hs.T 44 rfl) dX9_lacks_1 ?_
  refine r_if_ne 11 dX9_lacks_4 (by decide) (fun c4 => ?_) (fun c4 => ?_)
  · skip
    refine r_iconst (v := 0) dX9_lacks_11 (by decide) ?_
    exact r_zret (nar_bool (by simp)) dX9_lacks_12 ⟨_, rfl, rfl, by grind⟩
  · skip
    refine r_iconst (v := 1) dX9_lacks_7 (by decide) ?_
    refine r_goto 12 dX9_lacks_8 (by decide) ?_
    exact r_zret (nar_bool (by simp)) dX9_lacks_12 ⟨_, rfl, rfl, by grind⟩
def rmX9_isHouse : Room := { frames := 1, cells := 0, slots := 0, locals := 25 }
set_option maxHeartbeats 4000000 in
set_option maxRecDepth 100000 in
theorem kX9_isHouse (g : Gx) (M : Mm) (hs : St M) (h : Int32) : Ct g yX9_isHouse cX9_isHouse 1 (Option.some FieldType.boolean) rmX9_isHouse [.int h] M (pI fun r M' => M' = M ∧ r = (if 0 ≤ h ∧ h < 8 then 1 else 0)) := by
  refine Ct.of rfl (Nat.le_of_ble_eq_true rfl) (fun x => ?_)
  refine r_iload_n dX9_isHouse_0 rfl ?_
  refine r_i2l dX9_isHouse_1 ?_
  refine r_lconst (v := 0) dX9_isHouse_2 (by decide) ?_
  refine r_ldc2_w (v := 7) dX9_isHouse_3 tw768 ?_
  refine r_cS3i csX9_70 (kX9_in g M h.toInt64 0 7) hs.pos ⟨Nat.le_of_ble_eq_true rfl, Nat.le_of_ble_eq_true rfl⟩ (Nat.le_of_ble_eq_true rfl) ⟨Nat.le_of_ble_eq_true rfl, Nat.le_of_ble_eq_true rfl⟩ dX9_isHouse_6 (fun r6 M6 h6 => ?_)
  obtain ⟨e6, h6⟩ := h6
  replace e6 := e6.symm
  subst e6
  have e7 : r6 = (if 0 ≤ h ∧ h < 8 then 1 else 0) := by
    rw [h6]
    exact ite_iff ((in_int (v := h) (lo := 0) (hi := 7)).trans (by constructor <;> intro q <;> constructor <;> grind))
  exact r_zret (nar_bool (by rw [e7]; split <;> simp)) dX9_isHouse_9 ⟨_, rfl, rfl, e7⟩
def rmX9_isThief : Room := { frames := 1, cells := 0, slots := 0, locals := 25 }
set_option maxHeartbeats 4000000 in
set_option maxRecDepth 100000 in
theorem kX9_isThief (g : Gx) (M : Mm) (hs : St M) (n : Nat) (hn : n ≤ 8) (e : mI M 44 5 = nI n) (t : Int32) : Ct g yX9_isThief cX9_isThief 2 (Option.some FieldType.boolean) rmX9_isThief [.ref (g.1 + 44), .int t] M (pI fun r M' => M' = M ∧ r = (if 0 ≤ t ∧ t < nI n then 1 else 0)) := by
  refine Ct.of rfl (Nat.le_of_ble_eq_true rfl) (fun x => ?_)
  refine r_iload_n dX9_isThief_0 rfl ?_
  refine r_i2l dX9_isThief_1 ?_
  refine r_lconst (v := 0) dX9_isThief_2 (by decide) ?_
  refine r_aload_n dX9_isThief_3 rfl ?_
  refine r_getI flX9_91_9 rfl (hs.lt (by decide)) (hs.T 44 rfl) dX9_isThief_4 ?_
  refine r_iconst (v := 1) dX9_isThief_7 (by decide) ?_
  refine r_isub dX9_isThief_8 ?_
  refine r_i2l dX9_isThief_9 ?_
  refine r_cS3i csX9_70 (kX9_in g M t.toInt64 0 (mI M 44 5 - 1).toInt64) hs.pos ⟨Nat.le_of_ble_eq_true rfl, Nat.le_of_ble_eq_true rfl⟩ (Nat.le_of_ble_eq_true rfl) ⟨Nat.le_of_ble_eq_true rfl, Nat.le_of_ble_eq_true rfl⟩ dX9_isThief_10 (fun r10 M10 h10 => ?_)
  obtain ⟨e10, h10⟩ := h10
  replace e10 := e10.symm
  subst e10
  have e7 : r10 = (if 0 ≤ t ∧ t < nI n then 1 else 0) := by
    rw [h10, e]
    exact ite_iff ((in_int (v := t) (lo := 0) (hi := nI n - 1)).trans (le_pred hn))
  exact r_zret (nar_bool (by rw [e7]; split <;> simp)) dX9_isThief_13 ⟨_, rfl, rfl, e7⟩
def rmX9_isSpoon : Room := { frames := 1, cells := 0, slots := 0, locals := 25 }
set_option maxHeartbeats 4000000 in
set_option maxRecDepth 100000 in
theorem kX9_isSpoon (g : Gx) (M : Mm) (hs : St M) (n : Nat) (hn : n ≤ 8) (e : mI M 44 10 = nI n) (t : Int32) : Ct g yX9_isSpoon cX9_isSpoon 2 (Option.some FieldType.boolean) rmX9_isSpoon [.ref (g.1 + 44), .int t] M (pI fun r M' => M' = M ∧ r = (if 0 ≤ t ∧ t < nI n then 1 else 0)) := by
  refine Ct.of rfl (Nat.le_of_ble_eq_true rfl) (fun x => ?_)
  refine r_iload_n dX9_isSpoon_0 rfl ?_
  refine r_i2l dX9_isSpoon_1 ?_
  refine r_lconst (v := 0) dX9_isSpoon_2 (by decide) ?_
  refine r_aload_n dX9_isSpoon_3 rfl ?_
  refine r_getI flX9_113_9 rfl (hs.lt (by decide)) (hs.T 44 rfl) dX9_isSpoon_4 ?_
  refine r_iconst (v := 1) dX9_isSpoon_7 (by decide) ?_
  refine r_isub dX9_isSpoon_8 ?_
  refine r_i2l dX9_isSpoon_9 ?_
  refine r_cS3i csX9_70 (kX9_in g M t.toInt64 0 (mI M 44 10 - 1).toInt64) hs.pos ⟨Nat.le_of_ble_eq_true rfl, Nat.le_of_ble_eq_true rfl⟩ (Nat.le_of_ble_eq_true rfl) ⟨Nat.le_of_ble_eq_true rfl, Nat.le_of_ble_eq_true rfl⟩ dX9_isSpoon_10 (fun r10 M10 h10 => ?_)
  obtain ⟨e10, h10⟩ := h10
  replace e10 := e10.symm
  subst e10
  have e7 : r10 = (if 0 ≤ t ∧ t < nI n then 1 else 0) := by
    rw [h10, e]
    exact ite_iff ((in_int (v := t) (lo := 0) (hi := nI n - 1)).trans (le_pred hn))
  exact r_zret (nar_bool (by rw [e7]; split <;> simp)) dX9_isSpoon_13 ⟨_, rfl, rfl, e7⟩
def rmX9_fromOf : Room := { frames := 0, cells := 0, slots := 0, locals := 0 }
set_option maxHeartbeats 4000000 in
set_option maxRecDepth 100000 in
theorem kX9_fromOf (g : Gx) (M : Mm) (hs : St M) (σ : Ab) (w : Wf σ) (V : RV1 σ M) (pd : Rw) (p : Int32) (hp : ∀ t, t < zN σ → bitI p t = pd t) (t : Nat) (htN : t < zN σ) : Ct g yX9_fromOf cX9_fromOf 3 (Option.some FieldType.int) rmX9_fromOf [.ref (g.1 + 44), .int (nI t), .int p] M (pI fun r M' => M' = M ∧ r = frF σ (pd t) t) := by
  have ht8 : t < 8 := Nat.lt_of_lt_of_le htN w.1
  have hb := bit01 p t
  rw [hp t htN] at hb
  have hpt : p >>> (nI t &&& 31) &&& 1 = pd t := hp t htN
  refine Ct.of rfl (Nat.le_of_ble_eq_true rfl) (fun x => ?_)
  refine r_aload_n dX9_fromOf_0 rfl ?_
  refine r_getR flX9_16_9 rfl (hs.lt (by decide)) (hs.T 44 rfl) (hs.R 44 7 rfl) dX9_fromOf_1 ?_
  refine r_iconst (v := 4) dX9_fromOf_4 (by decide) ?_
  refine r_iload_n dX9_fromOf_5 rfl ?_
  refine r_imul dX9_fromOf_6 ?_
  refine r_dia (P := fun u => u = (if pd t = 1 then (2 : Int32) else 1)) 21 (fun u hu => ?_) (fun hJ21 => ?_)
  · skip
    refine r_iadd dX9_fromOf_21 ?_
    obtain ⟨c, hc, ec, hval⟩ : ∃ c, c < 4 ∧ u = nI c ∧ mI M 47 (4 * t + c) = frF σ (pd t) t := by
      rcases hb with z | z
      · exact ⟨1, by decide, by rw [hu, z]; rfl, by rw [show mI M 47 (4 * t + 1) = _ from (V.2.2.1 t htN).2.1, frF, if_pos z]⟩
      · exact ⟨2, by decide, by rw [hu, z]; rfl, by rw [show mI M 47 (4 * t + 2) = _ from (V.2.2.1 t htN).2.2.1, frF, if_neg (by rw [z]; decide)]⟩
    subst ec
    refine r_ial (hs.T 47 rfl) (hs.lt (by decide)) (ix4 (by omega) (by decide)) dX9_fromOf_22 ?_
    exact r_iret dX9_fromOf_23 ⟨_, rfl, rfl, hval⟩
  · skip
    refine r_iload_n dX9_fromOf_7 rfl ?_
    refine r_iload_n dX9_fromOf_8 rfl ?_
    refine r_ishr dX9_fromOf_9 ?_
    refine r_iconst (v := 1) dX9_fromOf_10 (by decide) ?_
    refine r_iand dX9_fromOf_11 ?_
    refine r_iconst (v := 1) dX9_fromOf_12 (by decide) ?_
    refine r_icmp_ne 20 dX9_fromOf_13 (by decide) (fun c13 => ?_) (fun c13 => ?_)
    · skip
      refine r_iconst (v := 1) dX9_fromOf_20 (by decide) ?_
      exact hJ21 _ (by rw [hpt] at c13; simp [c13])
    · skip
      refine r_iconst (v := 2) dX9_fromOf_16 (by decide) ?_
      refine r_goto 21 dX9_fromOf_17 (by decide) ?_
      exact hJ21 _ (by rw [hpt] at c13; simp [c13])
def rmX9_toOf : Room := { frames := 0, cells := 0, slots := 0, locals := 0 }
set_option maxHeartbeats 4000000 in
set_option maxRecDepth 100000 in
theorem kX9_toOf (g : Gx) (M : Mm) (hs : St M) (σ : Ab) (w : Wf σ) (V : RV1 σ M) (pd : Rw) (p : Int32) (hp : ∀ t, t < zN σ → bitI p t = pd t) (t : Nat) (htN : t < zN σ) : Ct g yX9_toOf cX9_toOf 3 (Option.some FieldType.int) rmX9_toOf [.ref (g.1 + 44), .int (nI t), .int p] M (pI fun r M' => M' = M ∧ r = toF σ (pd t) t) := by
  have ht8 : t < 8 := Nat.lt_of_lt_of_le htN w.1
  have hb := bit01 p t
  rw [hp t htN] at hb
  have hpt : p >>> (nI t &&& 31) &&& 1 = pd t := hp t htN
  refine Ct.of rfl (Nat.le_of_ble_eq_true rfl) (fun x => ?_)
  refine r_aload_n dX9_toOf_0 rfl ?_
  refine r_getR flX9_16_9 rfl (hs.lt (by decide)) (hs.T 44 rfl) (hs.R 44 7 rfl) dX9_toOf_1 ?_
  refine r_iconst (v := 4) dX9_toOf_4 (by decide) ?_
  refine r_iload_n dX9_toOf_5 rfl ?_
  refine r_imul dX9_toOf_6 ?_
  refine r_dia (P := fun u => u = (if pd t = 1 then (1 : Int32) else 2)) 21 (fun u hu => ?_) (fun hJ21 => ?_)
  · skip
    refine r_iadd dX9_toOf_21 ?_
    obtain ⟨c, hc, ec, hval⟩ : ∃ c, c < 4 ∧ u = nI c ∧ mI M 47 (4 * t + c) = toF σ (pd t) t := by
      rcases hb with z | z
      · exact ⟨2, by decide, by rw [hu, z]; rfl, by rw [show mI M 47 (4 * t + 2) = _ from (V.2.2.1 t htN).2.2.1, toF, if_pos z]⟩
      · exact ⟨1, by decide, by rw [hu, z]; rfl, by rw [show mI M 47 (4 * t + 1) = _ from (V.2.2.1 t htN).2.1, toF, if_neg (by rw [z]; decide)]⟩
    subst ec
    refine r_ial (hs.T 47 rfl) (hs.lt (by decide)) (ix4 (by omega) (by decide)) dX9_toOf_22 ?_
    exact r_iret dX9_toOf_23 ⟨_, rfl, rfl, hval⟩
  · skip
    refine r_iload_n dX9_toOf_7 rfl ?_
    refine r_iload_n dX9_toOf_8 rfl ?_
    refine r_ishr dX9_toOf_9 ?_
    refine r_iconst (v := 1) dX9_toOf_10 (by decide) ?_
    refine r_iand dX9_toOf_11 ?_
    refine r_iconst (v := 1) dX9_toOf_12 (by decide) ?_
    refine r_icmp_ne 20 dX9_toOf_13 (by decide) (fun c13 => ?_) (fun c13 => ?_)
    · skip
      refine r_iconst (v := 2) dX9_toOf_20 (by decide) ?_
      exact hJ21 _ (by rw [hpt] at c13; simp [c13])
    · skip
      refine r_iconst (v := 1) dX9_toOf_16 (by decide) ?_
      refine r_goto 21 dX9_toOf_17 (by decide) ?_
      exact hJ21 _ (by rw [hpt] at c13; simp [c13])
theorem may_1 {k : Nat} {d l : Int32} (hl : 0 ≤ l) (h : ¬ k = 3) (hd : d = 0) (h2 : l = 0 ∨ k = 4) : takB k d l := ⟨h, fun q => q.elim (fun z => z hd) (fun z => h2.elim (fun e => by rw [e] at z; exact absurd z.2 (by decide)) z.1)⟩
theorem may_0 {k : Nat} {d l : Int32} (hl : 0 ≤ l) (h : k = 3 ∨ ¬ d = 0 ∨ (¬ l = 0 ∧ ¬ k = 4)) : ¬ takB k d l := fun q => by
  rcases h with z | z | z
  · exact q.1 z
  · exact q.2 (Or.inl z)
  · exact q.2 (Or.inr ⟨z.2, by grind⟩)
def rmX9_mayTake : Room := { frames := 0, cells := 0, slots := 0, locals := 0 }
set_option maxHeartbeats 4000000 in
set_option maxRecDepth 100000 in
theorem kX9_mayTake (g : Gx) (M : Mm) (hs : St M) (σ : Ab) (w : Wf σ) (V : RV1 σ M) (dg lo ps : Rw) (D : RD M σ dg lo ps) (hlo : ∀ h, h < 8 → 0 ≤ lo h) (t : Nat) (htN : t < zN σ) (j : Nat) (hj : j < 8) : Ct g yX9_mayTake cX9_mayTake 4 (Option.some FieldType.boolean) rmX9_mayTake [.ref (g.1 + 44), .int (nI t), .int (nI j)] M (pI fun r M' => M' = M ∧ ((r = 1 ∧ takB (zk σ t) (dg j) (lo j)) ∨ (r = 0 ∧ ¬ takB (zk σ t) (dg j) (lo j)))) := by
  have ht8 : t < 8 := Nat.lt_of_lt_of_le htN w.1
  have hk5 := (w.2.2.1 t htN).1
  have ed : mI M 44 13 >>> (nI j &&& 31) &&& 1 = dg j := D.2.2 j hj
  have hl := hlo j hj
  refine Ct.of rfl (Nat.le_of_ble_eq_true rfl) (fun x => ?_)
  refine r_aload_n dX9_mayTake_0 rfl ?_
  refine r_getR flX9_16_9 rfl (hs.lt (by decide)) (hs.T 44 rfl) (hs.R 44 7 rfl) dX9_mayTake_1 ?_
  refine r_iconst (v := 4) dX9_mayTake_4 (by decide) ?_
  refine r_iload_n dX9_mayTake_5 rfl ?_
  refine r_imul dX9_mayTake_6 ?_
  refine r_ial (hs.T 47 rfl) (hs.lt (by decide)) (ix40 (by omega) (by decide)) dX9_mayTake_7 ?_
  refine r_istore_n dX9_mayTake_8 (by decide) rfl ?_
  refine r_iload_n dX9_mayTake_9 rfl ?_
  refine r_iconst (v := 3) dX9_mayTake_10 (by decide) ?_
  refine r_icmp_eq 43 dX9_mayTake_11 (by decide) (fun c11 => ?_) (fun c11 => ?_)
  · skip
    rw [show mI M 47 (4 * t) = _ from (V.2.2.1 t htN).1] at c11
    have hfin := may_0 (d := dg j) hl (Or.inl ((nI_eq (b := 3) (by omega) (by decide)).mp c11))
    refine r_iconst (v := 0) dX9_mayTake_43 (by decide) ?_
    exact r_zret (nar_bool (by simp)) dX9_mayTake_44 ⟨_, rfl, rfl, by first | exact Or.inl ⟨rfl, hfin⟩ | exact Or.inr ⟨rfl, hfin⟩⟩
  · skip
    rw [show mI M 47 (4 * t) = _ from (V.2.2.1 t htN).1] at c11
    have hk3 : ¬ zk σ t = 3 := fun q => c11 (by rw [q]; rfl)
    refine r_aload_n dX9_mayTake_14 rfl ?_
    refine r_getI flX9_119_9 rfl (hs.lt (by decide)) (hs.T 44 rfl) dX9_mayTake_15 ?_
    refine r_iload_n dX9_mayTake_18 rfl ?_
    refine r_ishr dX9_mayTake_19 ?_
    refine r_iconst (v := 1) dX9_mayTake_20 (by decide) ?_
    refine r_iand dX9_mayTake_21 ?_
    refine r_if_ne 43 dX9_mayTake_22 (by decide) (fun c22 => ?_) (fun c22 => ?_)
    · skip
      rw [ed] at c22
      have hfin := may_0 (k := zk σ t) hl (Or.inr (Or.inl c22))
      refine r_iconst (v := 0) dX9_mayTake_43 (by decide) ?_
      exact r_zret (nar_bool (by simp)) dX9_mayTake_44 ⟨_, rfl, rfl, by first | exact Or.inl ⟨rfl, hfin⟩ | exact Or.inr ⟨rfl, hfin⟩⟩
    · skip
      rw [ed] at c22
      refine r_aload_n dX9_mayTake_25 rfl ?_
      refine r_getR flX9_31_9 rfl (hs.lt (by decide)) (hs.T 44 rfl) (hs.R 44 17 rfl) dX9_mayTake_26 ?_
      refine r_iload_n dX9_mayTake_29 rfl ?_
      refine r_ial (hs.T 52 rfl) (hs.lt (by decide)) (ix_nI hj (by decide)) dX9_mayTake_30 ?_
      refine r_if_eq 39 dX9_mayTake_31 (by decide) (fun c31 => ?_) (fun c31 => ?_)
      · skip
        rw [D.2.1 j hj] at c31
        have hfin := may_1 hl hk3 c22 (Or.inl c31)
        refine r_iconst (v := 1) dX9_mayTake_39 (by decide) ?_
        refine r_goto 44 dX9_mayTake_40 (by decide) ?_
        exact r_zret (nar_bool (by simp)) dX9_mayTake_44 ⟨_, rfl, rfl, by first | exact Or.inl ⟨rfl, hfin⟩ | exact Or.inr ⟨rfl, hfin⟩⟩
      · skip
        rw [D.2.1 j hj] at c31
        refine r_iload_n dX9_mayTake_34 rfl ?_
        refine r_iconst (v := 4) dX9_mayTake_35 (by decide) ?_
        refine r_icmp_ne 43 dX9_mayTake_36 (by decide) (fun c36 => ?_) (fun c36 => ?_)
        · skip
          rw [show mI M 47 (4 * t) = _ from (V.2.2.1 t htN).1] at c36
          have hfin := may_0 (k := zk σ t) (d := dg j) hl (Or.inr (Or.inr ⟨c31, fun q => c36 (by rw [q]; rfl)⟩))
          refine r_iconst (v := 0) dX9_mayTake_43 (by decide) ?_
          exact r_zret (nar_bool (by simp)) dX9_mayTake_44 ⟨_, rfl, rfl, by first | exact Or.inl ⟨rfl, hfin⟩ | exact Or.inr ⟨rfl, hfin⟩⟩
        · skip
          rw [show mI M 47 (4 * t) = _ from (V.2.2.1 t htN).1] at c36
          have hfin := may_1 hl hk3 c22 (Or.inr ((nI_eq (b := 4) (by omega) (by decide)).mp c36))
          refine r_iconst (v := 1) dX9_mayTake_39 (by decide) ?_
          refine r_goto 44 dX9_mayTake_40 (by decide) ?_
          exact r_zret (nar_bool (by simp)) dX9_mayTake_44 ⟨_, rfl, rfl, by first | exact Or.inl ⟨rfl, hfin⟩ | exact Or.inr ⟨rfl, hfin⟩⟩
def rmX9_pick : Room := { frames := 0, cells := 0, slots := 0, locals := 0 }
theorem lik_2 {k : Nat} {a b : Int32} (h : k = 2) : likes k a b = true ↔ a < b := by unfold likes; rw [if_pos h]; simp
theorem lik_n {k : Nat} {a b : Int32} (h : ¬ k = 2) : likes k a b = true ↔ b < a := by unfold likes; rw [if_neg h]; simp
theorem pick_u {k : Nat} {wo ps : Rw} {h u x' : Int32} {i : Nat} (hu : u = if pickF k wo ps h i = -1 ∨ likes k (wo i) (wo (pickF k wo ps h i).toNatClampNeg) = true then 1 else 0) (hx : x' = if ps i = h ∧ ¬ u = 0 then nI i else pickF k wo ps h i) : x' = pickF k wo ps h (i + 1) := by
  rw [pickF, hx]
  by_cases q : pickF k wo ps h i = -1 ∨ likes k (wo i) (wo (pickF k wo ps h i).toNatClampNeg) = true
  · rw [if_pos q] at hu
    by_cases e : ps i = h
    · rw [if_pos ⟨e, by rw [hu]; decide⟩, if_pos ⟨e, q⟩]
    · rw [if_neg (fun z => e z.1), if_neg (fun z => e z.1)]
  · rw [if_neg q] at hu
    rw [if_neg (fun z => z.2 hu), if_neg (fun z => q z.2)]
set_option maxHeartbeats 4000000 in
set_option maxRecDepth 100000 in
theorem lp_rpick (g : Gx) (x : Cx) (M : Mm) (hs : St M) (σ : Ab) (w : Wf σ) (V : RV1 σ M) (ps : Rw) (hps : ∀ s, s < zS σ → mI M 51 s = ps s) (h b : Int32) (k : Nat) (hb : b = if k = 2 then 1 else 0) : ∀ (n : Nat) (i : Nat) (v be : Int32), i ≤ zS σ → zS σ - i < n → v = nI i → be = pickF k (zw σ) ps h i → Vj x g yX9_pick cX9_pick 7 (Option.some FieldType.int) rmX9_pick (Qm x g rmX9_pick.cells rmX9_pick.slots (pI fun r M' => M' = M ∧ r = pickF k (zw σ) ps h (zS σ))) 0 0 M 5 [(0, some (.ref (g.1 + 44))), (1, some (.int h)), (2, some (.int b)), (3, some (.int be)), (4, some (.int v))] [] := by
  intro n
  induction n with
  | zero => intro i v be hiS hn hv hbe; omega
  | succ n ih =>
    intro i v be hiS hn hv hbe
    subst hv
    have hv : nI i = nI i := rfl
    refine r_iload dX9_pick_5 rfl ?_
    refine r_aload_n dX9_pick_7 rfl ?_
    refine r_getI flX9_113_9 rfl (hs.lt (by decide)) (hs.T 44 rfl) dX9_pick_8 ?_
    refine r_icmp_ge 99 dX9_pick_11 (by decide) (fun c11 => ?_) (fun c11 => ?_)
    · skip
      have e0 := lp_ge (n := zS σ) hv V.2.1 c11 hiS (by have := w.2.1; omega)
      subst e0
      refine r_iload_n dX9_pick_99 rfl ?_
      exact r_iret dX9_pick_100 ⟨_, rfl, rfl, hbe⟩
    · skip
      have hi : i < zS σ := lp_lt (n := zS σ) hv V.2.1 c11 hiS (by have := w.2.1; omega)
      have h8 : i < 8 := Nat.lt_of_lt_of_le hi w.2.1
      have ewi : mI M 50 (4 * i) = zw σ i := (V.2.2.2 i hi).1
      refine r_aload_n dX9_pick_14 rfl ?_
      refine r_getR flX9_25_9 rfl (hs.lt (by decide)) (hs.T 44 rfl) (hs.R 44 15 rfl) dX9_pick_15 ?_
      refine r_iconst (v := 4) dX9_pick_18 (by decide) ?_
      refine r_iload dX9_pick_19 rfl ?_
      refine r_imul dX9_pick_21 ?_
      refine r_ial (hs.T 50 rfl) (hs.lt (by decide)) (ix40 (by omega) (by decide)) dX9_pick_22 ?_
      refine r_istore dX9_pick_23 (by decide) rfl ?_
      refine r_dia (P := fun u => u = (if pickF k (zw σ) ps h i = -1 ∨ likes k (zw σ i) (zw σ (pickF k (zw σ) ps h i).toNatClampNeg) = true then 1 else 0)) 68 (fun u hu => ?_) (fun hJ68 => ?_)
      · skip
        refine r_istore dX9_pick_68 (by decide) rfl ?_
        refine r_dia (P := fun x' => x' = (if ps i = h ∧ ¬ u = 0 then nI i else pickF k (zw σ) ps h i)) 92 (fun y' hy' => ?_) (fun hJ92 => ?_)
        · skip
          refine r_istore_n dX9_pick_92 (by decide) rfl ?_
          refine r_iinc dX9_pick_93 rfl rfl rfl ?_
          refine r_goto 5 dX9_pick_96 (by decide) ?_
          exact r_lv (lvSc rfl (lvSc rfl (lvSc rfl (lvSc rfl (lvSc rfl lvS0))))) (ih (i + 1) _ _ (by omega) (by omega) (nI_inc rfl) (pick_u hu hy'))
        · skip
          refine r_aload_n dX9_pick_70 rfl ?_
          refine r_getR flX9_28_9 rfl (hs.lt (by decide)) (hs.T 44 rfl) (hs.R 44 16 rfl) dX9_pick_71 ?_
          refine r_iload dX9_pick_74 rfl ?_
          refine r_ial (hs.T 51 rfl) (hs.lt (by decide)) (ix_nI h8 (by decide)) dX9_pick_76 ?_
          refine r_iload_n dX9_pick_77 rfl ?_
          refine r_icmp_ne 91 dX9_pick_78 (by decide) (fun c78 => ?_) (fun c78 => ?_)
          · skip
            rw [hps i hi] at c78
            have hfin2 : be = (if ps i = h ∧ ¬ u = 0 then nI i else pickF k (zw σ) ps h i) := by rw [if_neg (fun z => c78 z.1)]; exact hbe
            refine r_iload_n dX9_pick_91 rfl ?_
            exact hJ92 _ hfin2
          · skip
            rw [hps i hi] at c78
            refine r_iload dX9_pick_81 rfl ?_
            refine r_if_eq 91 dX9_pick_83 (by decide) (fun c83 => ?_) (fun c83 => ?_)
            · skip
              have hfin2 : be = (if ps i = h ∧ ¬ u = 0 then nI i else pickF k (zw σ) ps h i) := by rw [if_neg (fun z => z.2 c83)]; exact hbe
              refine r_iload_n dX9_pick_91 rfl ?_
              exact hJ92 _ hfin2
            · skip
              have hfin2 : nI i = (if ps i = h ∧ ¬ u = 0 then nI i else pickF k (zw σ) ps h i) := by rw [if_pos ⟨c78, c83⟩]
              refine r_iload dX9_pick_86 rfl ?_
              refine r_goto 92 dX9_pick_88 (by decide) ?_
              exact hJ92 _ hfin2
      · skip
        refine r_iload_n dX9_pick_25 rfl ?_
        refine r_iconst (v := -1) dX9_pick_26 (by decide) ?_
        refine r_icmp_eq 63 dX9_pick_27 (by decide) (fun c27 => ?_) (fun c27 => ?_)
        · skip
          have hfin : (1 : Int32) = (if pickF k (zw σ) ps h i = -1 ∨ likes k (zw σ i) (zw σ (pickF k (zw σ) ps h i).toNatClampNeg) = true then 1 else 0) := by rw [if_pos (Or.inl (hbe.symm.trans c27))]
          refine r_iconst (v := 1) dX9_pick_63 (by decide) ?_
          refine r_goto 68 dX9_pick_64 (by decide) ?_
          exact hJ68 _ hfin
        · skip
          obtain ⟨j, hj, ej⟩ := (pickF_some i).resolve_left (fun q => c27 (hbe.trans q))
          have ewj : mI M 50 (4 * j) = zw σ j := (V.2.2.2 j (by omega)).1
          have ecl : (pickF k (zw σ) ps h i).toNatClampNeg = j := by rw [ej]; exact nI_clamp (by omega)
          refine r_iload_n dX9_pick_30 rfl ?_
          refine r_if_eq 50 dX9_pick_31 (by decide) (fun c31 => ?_) (fun c31 => ?_)
          · skip
            have hk2 : ¬ k = 2 := fun q => by rw [hb, if_pos q] at c31; exact absurd c31 (by decide)
            refine r_iload dX9_pick_50 rfl ?_
            refine r_aload_n dX9_pick_52 rfl ?_
            refine r_getR flX9_25_9 rfl (hs.lt (by decide)) (hs.T 44 rfl) (hs.R 44 15 rfl) dX9_pick_53 ?_
            refine r_iconst (v := 4) dX9_pick_56 (by decide) ?_
            refine r_iload_n dX9_pick_57 rfl ?_
            refine r_imul dX9_pick_58 ?_
            refine r_ial (hs.T 50 rfl) (hs.lt (by decide)) (ix_of (by rw [hbe, ej]; exact nI_40 j) (by omega) (by decide)) dX9_pick_59 ?_
            refine r_icmp_le 67 dX9_pick_60 (by decide) (fun c60 => ?_) (fun c60 => ?_)
            · skip
              rw [ewi, ewj] at c60
              have hfin : (0 : Int32) = (if pickF k (zw σ) ps h i = -1 ∨ likes k (zw σ i) (zw σ (pickF k (zw σ) ps h i).toNatClampNeg) = true then 1 else 0) := by rw [if_neg (fun q => q.elim (fun z => c27 (hbe.trans z)) (fun z => by rw [ecl, lik_n hk2] at z; exact absurd z (Int32.not_lt.mpr c60)))]
              refine r_iconst (v := 0) dX9_pick_67 (by decide) ?_
              exact hJ68 _ hfin
            · skip
              rw [ewi, ewj] at c60
              have hfin : (1 : Int32) = (if pickF k (zw σ) ps h i = -1 ∨ likes k (zw σ i) (zw σ (pickF k (zw σ) ps h i).toNatClampNeg) = true then 1 else 0) := by rw [if_pos (Or.inr (by rw [ecl, lik_n hk2]; exact Int32.not_le.mp c60))]
              refine r_iconst (v := 1) dX9_pick_63 (by decide) ?_
              refine r_goto 68 dX9_pick_64 (by decide) ?_
              exact hJ68 _ hfin
          · skip
            have hk2 : k = 2 := Classical.byContradiction (fun q => c31 (by rw [hb, if_neg q]))
            refine r_iload dX9_pick_34 rfl ?_
            refine r_aload_n dX9_pick_36 rfl ?_
            refine r_getR flX9_25_9 rfl (hs.lt (by decide)) (hs.T 44 rfl) (hs.R 44 15 rfl) dX9_pick_37 ?_
            refine r_iconst (v := 4) dX9_pick_40 (by decide) ?_
            refine r_iload_n dX9_pick_41 rfl ?_
            refine r_imul dX9_pick_42 ?_
            refine r_ial (hs.T 50 rfl) (hs.lt (by decide)) (ix_of (by rw [hbe, ej]; exact nI_40 j) (by omega) (by decide)) dX9_pick_43 ?_
            refine r_icmp_ge 67 dX9_pick_44 (by decide) (fun c44 => ?_) (fun c44 => ?_)
            · skip
              rw [ewi, ewj] at c44
              have hfin : (0 : Int32) = (if pickF k (zw σ) ps h i = -1 ∨ likes k (zw σ i) (zw σ (pickF k (zw σ) ps h i).toNatClampNeg) = true then 1 else 0) := by rw [if_neg (fun q => q.elim (fun z => c27 (hbe.trans z)) (fun z => by rw [ecl, lik_2 hk2] at z; exact absurd z (Int32.not_lt.mpr c44)))]
              refine r_iconst (v := 0) dX9_pick_67 (by decide) ?_
              exact hJ68 _ hfin
            · skip
              rw [ewi, ewj] at c44
              have hfin : (1 : Int32) = (if pickF k (zw σ) ps h i = -1 ∨ likes k (zw σ i) (zw σ (pickF k (zw σ) ps h i).toNatClampNeg) = true then 1 else 0) := by rw [if_pos (Or.inr (by rw [ecl, lik_2 hk2]; exact Int32.not_le.mp c44))]
              refine r_goto 63 dX9_pick_47 (by decide) ?_
              refine r_iconst (v := 1) dX9_pick_63 (by decide) ?_
              refine r_goto 68 dX9_pick_64 (by decide) ?_
              exact hJ68 _ hfin
set_option maxHeartbeats 4000000 in
set_option maxRecDepth 100000 in
theorem kX9_pick (g : Gx) (M : Mm) (hs : St M) (σ : Ab) (w : Wf σ) (V : RV1 σ M) (ps : Rw) (hps : ∀ s, s < zS σ → mI M 51 s = ps s) (h b : Int32) (k : Nat) (hb : b = if k = 2 then 1 else 0) : Ct g yX9_pick cX9_pick 7 (Option.some FieldType.int) rmX9_pick [.ref (g.1 + 44), .int h, .int b] M (pI fun r M' => M' = M ∧ r = pickF k (zw σ) ps h (zS σ)) := by
  refine Ct.of rfl (Nat.le_of_ble_eq_true rfl) (fun x => ?_)
  refine r_iconst (v := -1) dX9_pick_0 (by decide) ?_
  refine r_istore_n dX9_pick_1 (by decide) rfl ?_
  refine r_iconst (v := 0) dX9_pick_2 (by decide) ?_
  refine r_istore dX9_pick_3 (by decide) rfl ?_
  exact r_lv (lvSc rfl (lvSc rfl (lvSc rfl (lvSc rfl (lvSc rfl lvS0))))) (lp_rpick g x M hs σ w V ps hps h b k hb (zS σ + 1) 0 0 (-1) (by omega) (by omega) rfl rfl)
