/-! the reference: fewest -/
def balF (σ : Ab) (δ : Dy) (h : Nat) : Nat → Int32 := sumF (fun s => (if yp δ s = nI h then zw σ s else 0) - (if zo σ s = nI h then zw σ s else 0))
theorem sumF_neg {f h : Nat → Int32} : ∀ n, (∀ i, i < n → f i = - h i) → sumF f n = - sumF h n
  | 0, _ => by show (0 : Int32) = -0; decide
  | n + 1, e => by rw [sumF, sumF, sumF_neg n (fun i hi => e i (by omega)), e n (by omega)]; grind
theorem balF_neg (σ : Ab) (δ : Dy) (h : Nat) : balF σ δ h (zS σ) = - netF σ δ h := sumF_neg _ (fun i _ => by grind)
theorem nsF_bal (σ : Ab) (δ : Dy) (k : Nat) : nsF (fun h => balF σ δ h (zS σ)) k = 0 ↔ nsF (netF σ δ) k = 0 := by
  have e : nsF (fun h => balF σ δ h (zS σ)) k = - nsF (netF σ δ) k := sumF_neg _ (fun i _ => by
    show (if k.testBit i = true then balF σ δ i (zS σ) else 0) = - (if k.testBit i = true then netF σ δ i else 0)
    split
    · exact balF_neg σ δ i
    · rfl)
  rw [e]
  constructor <;> intro h <;> grind
def gv (a : Nat) : Int32 := nI a - 1
theorem gv_m1 {a : Nat} (h : a < 1000) : gv a = -1 ↔ a = 0 := by
  unfold gv
  constructor
  · intro e
    have : nI a = nI 0 := by show nI a = 0; grind
    exact (nI_eq (by omega) (by decide)).mp this
  · intro e; subst e; rfl
theorem gv_up (a : Nat) : gv a + 1 = gv (a + 1) := by unfold gv; rw [← nI_1]; grind
theorem gv_le {a c : Nat} (ha : a < 1000) (hc : c < 1000) : gv a + 1 ≤ gv c ↔ a + 1 ≤ c := by
  cases c with
  | zero =>
    have h1 : (0 : Int32) ≤ nI a := nI_pos' (by omega)
    have e : gv a + 1 = nI a := by unfold gv; grind
    have e2 : gv 0 = -1 := rfl
    rw [e, e2]
    constructor
    · intro q; exfalso; grind
    · intro q; omega
  | succ d =>
    have e : gv a + 1 = nI a := by unfold gv; grind
    have e2 : gv (d + 1) = nI d := by unfold gv; rw [← nI_1]; show nI d + 1 - 1 = _; grind
    rw [e, e2, nI_leI (by omega) (by omega)]
    omega
def fewQ (σ : Ab) (δ : Dy) (r : Int32) : Prop := ∃ m, GR (netF σ δ) m 256 ∧ r = 8 - gv (m 255)
/-- so far, from above down to o -/
def GI (nt : Nat → Int32) (m : Nat → Nat) (i c q : Nat) : Prop := (∀ p, 1 ≤ p → sb p i → q < p → nsF nt p = 0 → ¬ m (i ^^^ p) = 0 → m (i ^^^ p) + 1 ≤ c) ∧ (c = 0 ∨ ∃ p, 1 ≤ p ∧ sb p i ∧ nsF nt p = 0 ∧ ¬ m (i ^^^ p) = 0 ∧ c = m (i ^^^ p) + 1)
theorem GI.step {nt : Nat → Int32} {m : Nat → Nat} {i c q : Nat} (h : GI nt m i c q) (hq : sb q i) (hh : nsF nt q = 0 → ¬ m (i ^^^ q) = 0 → m (i ^^^ q) + 1 ≤ c) : GI nt m i c ((q - 1) &&& i) := by
  refine ⟨fun p p1 p2 p3 p4 p5 => ?_, h.2⟩
  rcases Nat.lt_or_ge q p with z | z
  · exact h.1 p p1 p2 z p4 p5
  · rcases Nat.lt_or_ge p q with y | y
    · have := nextsub i q p (sb_and.mp hq) (sb_and.mp p2) y
      omega
    · have e : p = q := by omega
      subst e
      exact hh p4 p5
theorem GI.up {nt : Nat → Int32} {m : Nat → Nat} {i c q : Nat} (h : GI nt m i c q) (hq : sb q i) (h1 : 1 ≤ q) (hz : nsF nt q = 0) (hm : ¬ m (i ^^^ q) = 0) (hc : ¬ m (i ^^^ q) + 1 ≤ c) : GI nt m i (m (i ^^^ q) + 1) ((q - 1) &&& i) := by
  have h2 : GI nt m i (m (i ^^^ q) + 1) q := ⟨fun p p1 p2 p3 p4 p5 => by have := h.1 p p1 p2 p3 p4 p5; omega, Or.inr ⟨q, h1, hq, hz, hm, rfl⟩⟩
  exact h2.step hq (fun _ _ => Nat.le_refl _)
theorem GR.le {nt : Nat → Int32} {m : Nat → Nat} {B : Nat} (h : GR nt m B) : ∀ k, k < B → m k ≤ k + 1 := by
  intro k hk
  rcases Nat.eq_zero_or_pos k with e | e
  · rw [e, h.1]; omega
  · exact (h.2 k e hk).1
theorem GR.step {nt : Nat → Int32} {m : Nat → Nat} {i c : Nat} (h : GR nt m i) (h1 : 1 ≤ i) (hi : i < 256) (hG : GI nt m i c 0) : GR nt (va_up m i c) (i + 1) := by
  have lt : ∀ k, k < 256 → ∀ p, 1 ≤ p → sb p k → k ^^^ p < k := fun k hk p p1 p2 => xo_lt k hk p (by have := sb_le p2; omega) (sb_and.mp p2) p1
  refine ⟨by rw [va_up_ne _ _ (by omega)]; exact h.1, fun k k1 k2 => ?_⟩
  rcases Nat.lt_or_ge k i with q | q
  · obtain ⟨a, b, d⟩ := h.2 k k1 q
    rw [va_up_ne _ _ (by omega)]
    refine ⟨a, fun p p1 p2 p3 p4 => ?_, ?_⟩
    · have := lt k (by omega) p p1 p2
      rw [va_up_ne _ _ (by omega)] at p4 ⊢
      exact b p p1 p2 p3 p4
    · rcases d with d | ⟨p, p1, p2, p3, p4, p5⟩
      · exact Or.inl d
      · have := lt k (by omega) p p1 p2
        exact Or.inr ⟨p, p1, p2, p3, by rw [va_up_ne _ _ (by omega)]; exact p4, by rw [va_up_ne _ _ (by omega)]; exact p5⟩
  · have e : k = i := by omega
    subst e
    rw [va_up_self]
    refine ⟨?_, fun p p1 p2 p3 p4 => ?_, ?_⟩
    · rcases hG.2 with d | ⟨p, p1, p2, p3, p4, p5⟩
      · omega
      · have := lt k hi p p1 p2
        have := h.le (k ^^^ p) (by omega)
        omega
    · have := lt k hi p p1 p2
      rw [va_up_ne _ _ (by omega)] at p4 ⊢
      exact hG.1 p p1 p2 (by omega) p3 p4
    · rcases hG.2 with d | ⟨p, p1, p2, p3, p4, p5⟩
      · exact Or.inl d
      · have := lt k hi p p1 p2
        exact Or.inr ⟨p, p1, p2, p3, by rw [va_up_ne _ _ (by omega)]; exact p4, by rw [va_up_ne _ _ (by omega)]; exact p5⟩
theorem nI_pd {q : Nat} (h : 1 ≤ q) : nI q - 1 = nI (q - 1) := by
  have e : nI q = nI (q - 1) + 1 := by
    have := nI_1 (q - 1)
    rw [show q - 1 + 1 = q by omega] at this
    exact this.symm
  rw [e]; grind
def rmX9_balance : Room := { frames := 0, cells := 0, slots := 0, locals := 0 }
set_option maxHeartbeats 4000000 in
set_option maxRecDepth 100000 in
theorem lp_rbal (g : Gx) (x : Cx) (M : Mm) (hs : St M) (bl : Nat → Int32) (hb : ∀ h, h < 8 → mI M 55 h = bl h) (k : Nat) (hk : k < 256) : ∀ (n : Nat) (i : Nat) (v a : Int32), i ≤ 8 → 8 - i < n → v = nI i → a = sumF (fun h => if k.testBit h = true then bl h else 0) i → Vj x g yX9_balance cX9_balance 4 (Option.some FieldType.int) rmX9_balance (Qm x g rmX9_balance.cells rmX9_balance.slots (pI fun r M' => M' = M ∧ r = nsF bl k)) 0 0 M 4 [(0, some (.ref (g.1 + 44))), (1, some (.int (nI k))), (2, some (.int a)), (3, some (.int v))] [] := by
  intro n
  induction n with
  | zero => intro i v a hi8 hn hv ha; omega
  | succ n ih =>
    intro i v a hi8 hn hv ha
    subst hv
    have hv : nI i = nI i := rfl
    refine r_iload_n dX9_balance_4 rfl ?_
    refine r_bipush (v := 8) dX9_balance_5 (by decide) ?_
    refine r_icmp_ge 38 dX9_balance_7 (by decide) (fun c7 => ?_) (fun c7 => ?_)
    · skip
      have ez := lp_ge (n := 8) hv rfl c7 hi8 (by decide)
      subst ez
      refine r_iload_n dX9_balance_38 rfl ?_
      exact r_iret dX9_balance_39 ⟨_, rfl, rfl, ha⟩
    · skip
      have hi8 : i < 8 := lp_lt (n := 8) hv rfl c7 hi8 (by decide)
      refine r_iload_n dX9_balance_10 rfl ?_
      refine r_dia (P := fun u => u = (fun h => if k.testBit h = true then bl h else 0) i) 30 (fun u hu => ?_) (fun hJ30 => ?_)
      · skip
        refine r_iadd dX9_balance_30 ?_
        refine r_istore_n dX9_balance_31 (by decide) rfl ?_
        refine r_iinc dX9_balance_32 rfl rfl rfl ?_
        refine r_goto 4 dX9_balance_35 (by decide) ?_
        exact r_lv (lvSc rfl (lvSc rfl (lvSc rfl (lvSc rfl lvS0)))) (ih (i + 1) _ _ (by omega) (by omega) (nI_inc rfl) (by rw [sumF, ha, hu]))
      · skip
        refine r_iload_n dX9_balance_11 rfl ?_
        refine r_iload_n dX9_balance_12 rfl ?_
        refine r_ishr dX9_balance_13 ?_
        refine r_iconst (v := 1) dX9_balance_14 (by decide) ?_
        refine r_iand dX9_balance_15 ?_
        refine r_iconst (v := 1) dX9_balance_16 (by decide) ?_
        refine r_icmp_ne 29 dX9_balance_17 (by decide) (fun c17 => ?_) (fun c17 => ?_)
        · skip
          have hfin : (0 : Int32) = (fun h => if k.testBit h = true then bl h else 0) i := by
            show _ = ite _ _ _
            rw [if_neg (fun z => c17 ((m_bit k hk i hi8).mpr z))]
          refine r_iconst (v := 0) dX9_balance_29 (by decide) ?_
          exact hJ30 _ hfin
        · skip
          have hfin : mI M 55 i = (fun h => if k.testBit h = true then bl h else 0) i := by
            show _ = ite _ _ _
            rw [if_pos ((m_bit k hk i hi8).mp c17)]; exact hb i hi8
          refine r_aload_n dX9_balance_20 rfl ?_
          refine r_getR flX9_41_9 rfl (hs.lt (by decide)) (hs.T 44 rfl) (hs.R 44 20 rfl) dX9_balance_21 ?_
          refine r_iload_n dX9_balance_24 rfl ?_
          refine r_ial (hs.T 55 rfl) (hs.lt (by decide)) (ix_nI hi8 (by decide)) dX9_balance_25 ?_
          refine r_goto 30 dX9_balance_26 (by decide) ?_
          exact hJ30 _ hfin
set_option maxHeartbeats 4000000 in
set_option maxRecDepth 100000 in
theorem kX9_balance (g : Gx) (M : Mm) (hs : St M) (bl : Nat → Int32) (hb : ∀ h, h < 8 → mI M 55 h = bl h) (k : Nat) (hk : k < 256) : Ct g yX9_balance cX9_balance 4 (Option.some FieldType.int) rmX9_balance [.ref (g.1 + 44), .int (nI k)] M (pI fun r M' => M' = M ∧ r = nsF bl k) := by
  refine Ct.of rfl (Nat.le_of_ble_eq_true rfl) (fun x => ?_)
  refine r_iconst (v := 0) dX9_balance_0 (by decide) ?_
  refine r_istore_n dX9_balance_1 (by decide) rfl ?_
  refine r_iconst (v := 0) dX9_balance_2 (by decide) ?_
  refine r_istore_n dX9_balance_3 (by decide) rfl ?_
  exact r_lv (lvSc rfl (lvSc rfl (lvSc rfl (lvSc rfl lvS0)))) (lp_rbal g x M hs bl hb k hk 9 0 0 0 (by omega) (by omega) rfl rfl)
def rmX9_fewestOf : Room := { frames := 1, cells := 0, slots := 0, locals := 23 }
set_option maxHeartbeats 4000000 in
set_option maxRecDepth 100000 in
theorem lp_rfewI (g : Gx) (x : Cx) (P : Int32 → Mm → Prop) (M : Mm) (σ : Ab) (δ : Dy) (C : RA σ δ M) (hbal : ∀ h, h < 8 → mI M 55 h = balF σ δ h (zS σ)) (i : Nat) (h1 : 1 ≤ i) (hi : i < 256) (m : Nat → Nat) (G : GR (netF σ δ) m i) (K : ∀ (M2 : Mm) (c : Nat) (v : Int32), Fr [54] [] M M2 → (∀ k, k < i → mI M2 54 k = gv (m k)) → mI M2 54 i = gv c → GI (netF σ δ) m i c 0 → v = nI (i + 1) → Vj x g yX9_fewestOf cX9_fewestOf 4 (Option.some FieldType.int) rmX9_fewestOf (Qm x g rmX9_fewestOf.cells rmX9_fewestOf.slots (pI P)) 0 0 M2 116 [(0, some (.ref (g.1 + 44))), (1, some (.int v))] []) : ∀ (n : Nat) (q : Nat) (v : Int32) (c : Nat) (M1 : Mm), q < n → v = nI q → Fr [54] [] M M1 → (∀ k, k < i → mI M1 54 k = gv (m k)) → mI M1 54 i = gv c → c ≤ i + 1 → GI (netF σ δ) m i c q → sb q i → Vj x g yX9_fewestOf cX9_fewestOf 4 (Option.some FieldType.int) rmX9_fewestOf (Qm x g rmX9_fewestOf.cells rmX9_fewestOf.slots (pI P)) 0 0 M1 132 [(0, some (.ref (g.1 + 44))), (1, some (.int (nI i))), (2, some (.int v))] [] := by
  intro n
  induction n with
  | zero => intro q v c M1 hqn hv hF hm hc hci hG hsb; omega
  | succ n ih =>
    intro q v c M1 hqn hv hF hm hc hci hG hsb
    have hs1 := C.1.fr hF
    have hqi := sb_le hsb
    refine r_iload_n dX9_fewestOf_132 rfl ?_
    refine r_if_le 190 dX9_fewestOf_133 (by decide) (fun c133 => ?_) (fun c133 => ?_)
    · skip
      have hq0 : q = 0 := by rw [hv] at c133; have := (nI_leI (b := 0) (by omega) (by decide)).mp c133; omega
      subst hq0
      refine r_iinc dX9_fewestOf_190 rfl rfl rfl ?_
      refine r_goto 116 dX9_fewestOf_193 (by decide) ?_
      exact r_lv (lvSc rfl (lvSc rfl lvS0)) (K M1 c _ hF hm hc hG (nI_inc rfl))
    · skip
      have hq1 : 1 ≤ q := by
        rcases Nat.eq_zero_or_pos q with z | z
        · exfalso; apply c133; rw [hv, z]; exact Int32.le_refl _
        · exact z
      subst hv
      have hxl := xo_lt i hi q (by omega) (sb_and.mp hsb) hq1
      have hrv : mI M1 54 (i ^^^ q) = gv (m (i ^^^ q)) := hm _ hxl
      have hml := G.le (i ^^^ q) hxl
      have hsb2 : sb ((q - 1) &&& i) i := fun z y => by rw [Nat.testBit_and] at y; simp at y; exact y.2
      refine r_aload_n dX9_fewestOf_136 rfl ?_
      refine r_getR flX9_38_9 rfl (hs1.lt (by decide)) (hs1.T 44 rfl) (hs1.R 44 19 rfl) dX9_fewestOf_137 ?_
      refine r_iload_n dX9_fewestOf_140 rfl ?_
      refine r_iload_n dX9_fewestOf_141 rfl ?_
      refine r_iconst (v := -1) dX9_fewestOf_142 (by decide) ?_
      refine r_ixor dX9_fewestOf_143 ?_
      refine r_iand dX9_fewestOf_144 ?_
      refine r_ial (hs1.T 54 rfl) (hs1.lt (by decide)) (ix_of (xo_I i hi q (by omega) (sb_and.mp hsb)) (by omega) (by decide)) dX9_fewestOf_145 ?_
      refine r_istore_n dX9_fewestOf_146 (by decide) rfl ?_
      refine r_iload_n dX9_fewestOf_147 rfl ?_
      refine r_iconst (v := -1) dX9_fewestOf_148 (by decide) ?_
      refine r_icmp_eq 181 dX9_fewestOf_149 (by decide) (fun c149 => ?_) (fun c149 => ?_)
      · skip
        rw [hrv] at c149
        have hz : m (i ^^^ q) = 0 := (gv_m1 (by omega)).mp c149
        refine r_iload_n dX9_fewestOf_181 rfl ?_
        refine r_iconst (v := 1) dX9_fewestOf_182 (by decide) ?_
        refine r_isub dX9_fewestOf_183 ?_
        refine r_iload_n dX9_fewestOf_184 rfl ?_
        refine r_iand dX9_fewestOf_185 ?_
        refine r_istore_n dX9_fewestOf_186 (by decide) rfl ?_
        refine r_goto 132 dX9_fewestOf_187 (by decide) ?_
        exact r_lv (lvSc rfl (lvSc rfl (lvSc rfl lvS0))) (ih ((q - 1) &&& i) _ c _ (by have := Nat.and_le_left (n := q - 1) (m := i); omega) (by rw [nI_pd hq1, nI_and]) hF hm hc (by omega) (hG.step hsb (fun _ z => absurd hz z)) hsb2)
      · skip
        rw [hrv] at c149
        have hz : ¬ m (i ^^^ q) = 0 := fun z => c149 ((gv_m1 (by omega)).mpr z)
        refine r_iload_n dX9_fewestOf_152 rfl ?_
        refine r_iconst (v := 1) dX9_fewestOf_153 (by decide) ?_
        refine r_iadd dX9_fewestOf_154 ?_
        refine r_aload_n dX9_fewestOf_155 rfl ?_
        refine r_getR flX9_38_9 rfl (hs1.lt (by decide)) (hs1.T 44 rfl) (hs1.R 44 19 rfl) dX9_fewestOf_156 ?_
        refine r_iload_n dX9_fewestOf_159 rfl ?_
        refine r_ial (hs1.T 54 rfl) (hs1.lt (by decide)) (ix_nI hi (by decide)) dX9_fewestOf_160 ?_
        refine r_icmp_le 181 dX9_fewestOf_161 (by decide) (fun c161 => ?_) (fun c161 => ?_)
        · skip
          rw [hrv, hc] at c161
          have hle : m (i ^^^ q) + 1 ≤ c := (gv_le (by omega) (by omega)).mp c161
          refine r_iload_n dX9_fewestOf_181 rfl ?_
          refine r_iconst (v := 1) dX9_fewestOf_182 (by decide) ?_
          refine r_isub dX9_fewestOf_183 ?_
          refine r_iload_n dX9_fewestOf_184 rfl ?_
          refine r_iand dX9_fewestOf_185 ?_
          refine r_istore_n dX9_fewestOf_186 (by decide) rfl ?_
          refine r_goto 132 dX9_fewestOf_187 (by decide) ?_
          exact r_lv (lvSc rfl (lvSc rfl (lvSc rfl lvS0))) (ih ((q - 1) &&& i) _ c _ (by have := Nat.and_le_left (n := q - 1) (m := i); omega) (by rw [nI_pd hq1, nI_and]) hF hm hc (by omega) (hG.step hsb (fun _ _ => hle)) hsb2)
        · skip
          rw [hrv, hc] at c161
          have hle : ¬ m (i ^^^ q) + 1 ≤ c := fun z => c161 ((gv_le (by omega) (by omega)).mpr z)
          refine r_aload_n dX9_fewestOf_164 rfl ?_
          refine r_iload_n dX9_fewestOf_165 rfl ?_
          refine r_cV1i cvX9_205 (kX9_balance g M1 hs1 (fun h => balF σ δ h (zS σ)) (fun h h8 => by rw [hF.2.1 55 (by decide)]; exact hbal h h8) q (by omega)) (hs1.lt (by decide)) (hs1.T 44 rfl) ⟨Nat.le_of_ble_eq_true rfl, Nat.le_of_ble_eq_true rfl⟩ (Nat.le_of_ble_eq_true rfl) ⟨Nat.le_of_ble_eq_true rfl, Nat.le_of_ble_eq_true rfl⟩ dX9_fewestOf_166 (fun z166 M166 h166 => ?_)
          obtain ⟨e166, h166⟩ := h166
          replace e166 := e166.symm
          subst e166
          refine r_if_ne 181 dX9_fewestOf_169 (by decide) (fun c169 => ?_) (fun c169 => ?_)
          · skip
            have hns : ¬ nsF (netF σ δ) q = 0 := fun z => c169 (h166.trans ((nsF_bal σ δ q).mpr z))
            refine r_iload_n dX9_fewestOf_181 rfl ?_
            refine r_iconst (v := 1) dX9_fewestOf_182 (by decide) ?_
            refine r_isub dX9_fewestOf_183 ?_
            refine r_iload_n dX9_fewestOf_184 rfl ?_
            refine r_iand dX9_fewestOf_185 ?_
            refine r_istore_n dX9_fewestOf_186 (by decide) rfl ?_
            refine r_goto 132 dX9_fewestOf_187 (by decide) ?_
            exact r_lv (lvSc rfl (lvSc rfl (lvSc rfl lvS0))) (ih ((q - 1) &&& i) _ c _ (by have := Nat.and_le_left (n := q - 1) (m := i); omega) (by rw [nI_pd hq1, nI_and]) hF hm hc (by omega) (hG.step hsb (fun z _ => absurd z hns)) hsb2)
          · skip
            have hns : nsF (netF σ δ) q = 0 := (nsF_bal σ δ q).mp (h166.symm.trans c169)
            rw [hrv]
            refine r_aload_n dX9_fewestOf_172 rfl ?_
            refine r_getR flX9_38_9 rfl (hs1.lt (by decide)) (hs1.T 44 rfl) (hs1.R 44 19 rfl) dX9_fewestOf_173 ?_
            refine r_iload_n dX9_fewestOf_176 rfl ?_
            refine r_iload_n dX9_fewestOf_177 rfl ?_
            refine r_iconst (v := 1) dX9_fewestOf_178 (by decide) ?_
            refine r_iadd dX9_fewestOf_179 ?_
            refine r_ias (hs1.T 54 rfl) (hs1.lt (by decide)) (ix_nI hi (by decide)) dX9_fewestOf_180 ?_
            refine r_iload_n dX9_fewestOf_181 rfl ?_
            refine r_iconst (v := 1) dX9_fewestOf_182 (by decide) ?_
            refine r_isub dX9_fewestOf_183 ?_
            refine r_iload_n dX9_fewestOf_184 rfl ?_
            refine r_iand dX9_fewestOf_185 ?_
            refine r_istore_n dX9_fewestOf_186 (by decide) rfl ?_
            refine r_goto 132 dX9_fewestOf_187 (by decide) ?_
            exact r_lv (lvSc rfl (lvSc rfl (lvSc rfl lvS0))) (ih ((q - 1) &&& i) _ ((m (i ^^^ q)) + 1) _ (by have := Nat.and_le_left (n := q - 1) (m := i); omega) (by rw [nI_pd hq1, nI_and]) (hF.sI (by simp)) (fun k hk => by rw [mI_sI, va_up_ne _ _ (by omega)]; exact hm k hk) (by rw [mI_sI, va_up_self]; exact gv_up _) (by omega) (hG.up hsb hq1 hns hz hle) hsb2)
set_option maxHeartbeats 4000000 in
set_option maxRecDepth 100000 in
theorem lp_rfewG (g : Gx) (x : Cx) (P : Int32 → Mm → Prop) (M : Mm) (σ : Ab) (δ : Dy) (C : RA σ δ M) (hbal : ∀ h, h < 8 → mI M 55 h = balF σ δ h (zS σ)) (hP : ∀ M' r, Fr [54] [] M M' → fewQ σ δ r → P r M') : ∀ (n : Nat) (i : Nat) (v : Int32) (m : Nat → Nat) (M1 : Mm), 1 ≤ i → i ≤ 256 → 256 - i < n → v = nI i → Fr [54] [] M M1 → (∀ k, k < i → mI M1 54 k = gv (m k)) → GR (netF σ δ) m i → Vj x g yX9_fewestOf cX9_fewestOf 4 (Option.some FieldType.int) rmX9_fewestOf (Qm x g rmX9_fewestOf.cells rmX9_fewestOf.slots (pI P)) 0 0 M1 116 [(0, some (.ref (g.1 + 44))), (1, some (.int v))] [] := by
  intro n
  induction n with
  | zero => intro i v m M1 h1 hi8 hn hv hF hm G; omega
  | succ n ih =>
    intro i v m M1 h1 hi8 hn hv hF hm G
    have hs1 := C.1.fr hF
    subst hv
    have hv : nI i = nI i := rfl
    refine r_iload_n dX9_fewestOf_116 rfl ?_
    refine r_sipush (v := 256) dX9_fewestOf_117 (by decide) ?_
    refine r_icmp_ge 196 dX9_fewestOf_120 (by decide) (fun c120 => ?_) (fun c120 => ?_)
    · skip
      have ez := lp_ge (n := 256) hv rfl c120 hi8 (by decide)
      subst ez
      refine r_bipush (v := 8) dX9_fewestOf_196 (by decide) ?_
      refine r_aload_n dX9_fewestOf_198 rfl ?_
      refine r_getR flX9_38_9 rfl (hs1.lt (by decide)) (hs1.T 44 rfl) (hs1.R 44 19 rfl) dX9_fewestOf_199 ?_
      refine r_sipush (v := 255) dX9_fewestOf_202 (by decide) ?_
      refine r_ial (hs1.T 54 rfl) (hs1.lt (by decide)) (ix_nI (j := 255) (by decide) (by decide)) dX9_fewestOf_205 ?_
      refine r_isub dX9_fewestOf_206 ?_
      exact r_iret dX9_fewestOf_207 ⟨_, rfl, hP M1 _ hF ⟨m, G, by rw [hm 255 (by decide)]⟩⟩
    · skip
      have hi : i < 256 := lp_lt (n := 256) hv rfl c120 hi8 (by decide)
      refine r_aload_n dX9_fewestOf_123 rfl ?_
      refine r_getR flX9_38_9 rfl (hs1.lt (by decide)) (hs1.T 44 rfl) (hs1.R 44 19 rfl) dX9_fewestOf_124 ?_
      refine r_iload_n dX9_fewestOf_127 rfl ?_
      refine r_iconst (v := -1) dX9_fewestOf_128 (by decide) ?_
      refine r_ias (hs1.T 54 rfl) (hs1.lt (by decide)) (ix_nI hi (by decide)) dX9_fewestOf_129 ?_
      have hF2 := hF.sI (a := 54) (k := i) (v := (-1 : Int32)) (by simp)
      have hs2 := C.1.fr hF2
      refine r_iload_n dX9_fewestOf_130 rfl ?_
      refine r_istore_n dX9_fewestOf_131 (by decide) rfl ?_
      exact r_lv (lvSc rfl (lvSc rfl (lvSc rfl lvS0))) (lp_rfewI g x P M σ δ C hbal i h1 hi m G (fun M2 c v f1 f2 f3 f4 f5 => ih (i + 1) v (va_up m i c) M2 (by omega) (by omega) (by omega) f5 f1 (fun k hk => by
        rw [va_up_if]
        split
        · next e => rw [e]; exact f3
        · exact f2 k (by omega)) (G.step h1 hi f4)) (i + 1) i _ 0 _ (by omega) rfl hF2 (fun k hk => by rw [mI_sI, va_up_ne _ _ (by omega)]; exact hm k hk) (by rw [mI_sI, va_up_self]; rfl) (by omega) ⟨fun p p1 p2 p3 => by have := sb_le p2; omega, Or.inl rfl⟩ (sb_rf i))
set_option maxHeartbeats 4000000 in
set_option maxRecDepth 100000 in
theorem lp_rfewS (g : Gx) (x : Cx) (P : Int32 → Mm → Prop) (M : Mm) (σ : Ab) (δ : Dy) (C : RA σ δ M) (j : Nat) (hj : j < 8) (M1 : Mm) (K : ∀ (M2 : Mm) (v : Int32), Fr [55] [] M M2 → mI M2 55 j = balF σ δ j (zS σ) → (∀ k, k ≠ j → mI M2 55 k = mI M1 55 k) → v = nI (j + 1) → Vj x g yX9_fewestOf cX9_fewestOf 4 (Option.some FieldType.int) rmX9_fewestOf (Qm x g rmX9_fewestOf.cells rmX9_fewestOf.slots (pI P)) 0 0 M2 2 [(0, some (.ref (g.1 + 44))), (1, some (.int v))] []) : ∀ (n : Nat) (i : Nat) (v : Int32) (M2 : Mm), i ≤ zS σ → zS σ - i < n → v = nI i → Fr [55] [] M M2 → mI M2 55 j = balF σ δ j i → (∀ k, k ≠ j → mI M2 55 k = mI M1 55 k) → Vj x g yX9_fewestOf cX9_fewestOf 4 (Option.some FieldType.int) rmX9_fewestOf (Qm x g rmX9_fewestOf.cells rmX9_fewestOf.slots (pI P)) 0 0 M2 17 [(0, some (.ref (g.1 + 44))), (1, some (.int (nI j))), (2, some (.int v))] [] := by
  intro n
  induction n with
  | zero => intro i v M2 hiS hn hv hF hb ho; omega
  | succ n ih =>
    intro i v M2 hiS hn hv hF hb ho
    obtain ⟨hs, w, dw, V, r1, r2, r3, r4, r5, r6, r7⟩ := id C
    have hs1 := hs.fr hF
    have g44 : mI M2 44 = mI M 44 := hF.2.1 44 (by decide)
    subst hv
    have hv : nI i = nI i := rfl
    refine r_iload_n dX9_fewestOf_17 rfl ?_
    refine r_aload_n dX9_fewestOf_18 rfl ?_
    refine r_getI flX9_113_9 rfl (hs1.lt (by decide)) (hs1.T 44 rfl) dX9_fewestOf_19 ?_
    refine r_icmp_ge 101 dX9_fewestOf_22 (by decide) (fun c22 => ?_) (fun c22 => ?_)
    · skip
      rw [g44] at c22
      have ez := lp_ge (n := zS σ) hv V.2.1 c22 hiS (by have := w.2.1; omega)
      subst ez
      refine r_iinc dX9_fewestOf_101 rfl rfl rfl ?_
      refine r_goto 2 dX9_fewestOf_104 (by decide) ?_
      exact r_lv (lvSc rfl (lvSc rfl lvS0)) (K M2 _ hF hb ho (nI_inc rfl))
    · skip
      rw [g44] at c22
      have hi : i < zS σ := lp_lt (n := zS σ) hv V.2.1 c22 hiS (by have := w.2.1; omega)
      have hi8 : i < 8 := Nat.lt_of_lt_of_le hi w.2.1
      have q0 : mI M2 50 (4 * i) = zw σ i := by rw [hF.2.1 50 (by decide)]; exact (V.2.2.2 i hi).1
      have q1 : mI M2 50 (4 * i + 1) = zo σ i := by rw [hF.2.1 50 (by decide)]; exact (V.2.2.2 i hi).2
      have q2 : mI M2 50 (4 * i + 2) = yp δ i := by rw [hF.2.1 50 (by decide)]; exact (r1 i hi).1
      refine r_aload_n dX9_fewestOf_25 rfl ?_
      refine r_getR flX9_41_9 rfl (hs1.lt (by decide)) (hs1.T 44 rfl) (hs1.R 44 20 rfl) dX9_fewestOf_26 ?_
      refine r_iload_n dX9_fewestOf_29 rfl ?_
      refine r_dup2 dX9_fewestOf_30 rfl rfl ?_
      refine r_ial (hs1.T 55 rfl) (hs1.lt (by decide)) (ix_nI hj (by decide)) dX9_fewestOf_31 ?_
      refine r_dia (P := fun u => u = (if yp δ i = nI j then zw σ i else 0)) 58 (fun u hu => ?_) (fun hJ58 => ?_)
      · skip
        refine r_iadd dX9_fewestOf_58 ?_
        refine r_ias (hs1.T 55 rfl) (hs1.lt (by decide)) (ix_nI hj (by decide)) dX9_fewestOf_59 ?_
        refine r_aload_n dX9_fewestOf_60 rfl ?_
        refine r_getR flX9_41_9 rfl (hs1.lt (by decide)) (hs1.T 44 rfl) (hs1.R 44 20 rfl) dX9_fewestOf_61 ?_
        refine r_iload_n dX9_fewestOf_64 rfl ?_
        refine r_dup2 dX9_fewestOf_65 rfl rfl ?_
        refine r_ial (hs1.T 55 rfl) (hs1.lt (by decide)) (ix_nI hj (by decide)) dX9_fewestOf_66 ?_
        refine r_dia (P := fun u => u = (if zo σ i = nI j then zw σ i else 0)) 93 (fun u2 hu2 => ?_) (fun hJ93 => ?_)
        · skip
          refine r_isub dX9_fewestOf_93 ?_
          refine r_ias (hs1.T 55 rfl) (hs1.lt (by decide)) (ix_nI hj (by decide)) dX9_fewestOf_94 ?_
          refine r_iinc dX9_fewestOf_95 rfl rfl rfl ?_
          refine r_goto 17 dX9_fewestOf_98 (by decide) ?_
          exact r_lv (lvSc rfl (lvSc rfl (lvSc rfl lvS0))) (ih (i + 1) _ _ (by omega) (by omega) (nI_inc rfl) ((hF.sI (by simp)).sI (by simp)) (by
            rw [mI_sI, va_up_self, mI_sI, va_up_self, balF, sumF, hu, hu2]
            rw [balF] at hb
            rw [hb]
            grind) (fun k hk => by rw [mI_sI, va_up_ne _ _ hk, mI_sI, va_up_ne _ _ hk]; exact ho k hk))
        · skip
          refine r_aload_n dX9_fewestOf_67 rfl ?_
          refine r_getR flX9_25_9 rfl (hs1.lt (by decide)) (hs1.T 44 rfl) (hs1.R 44 15 rfl) dX9_fewestOf_68 ?_
          refine r_iconst (v := 4) dX9_fewestOf_71 (by decide) ?_
          refine r_iload_n dX9_fewestOf_72 rfl ?_
          refine r_imul dX9_fewestOf_73 ?_
          refine r_iconst (v := 1) dX9_fewestOf_74 (by decide) ?_
          refine r_iadd dX9_fewestOf_75 ?_
          refine r_ial (hs1.T 50 rfl) (hs1.lt (by decide)) (ix4 (c := 1) (by omega) (by decide)) dX9_fewestOf_76 ?_
          refine r_iload_n dX9_fewestOf_77 rfl ?_
          refine r_icmp_ne 92 dX9_fewestOf_78 (by decide) (fun c78 => ?_) (fun c78 => ?_)
          · skip
            have c79 : ¬ zo σ i = nI j := by rw [← q1]; exact c78
            have hfin2 : (0 : Int32) = (if zo σ i = nI j then zw σ i else 0) := by rw [if_neg c79]
            refine r_iconst (v := 0) dX9_fewestOf_92 (by decide) ?_
            exact hJ93 _ hfin2
          · skip
            have c79 : zo σ i = nI j := by rw [← q1]; exact c78
            have hfin2 : mI M2 50 (4 * i) = (if zo σ i = nI j then zw σ i else 0) := by rw [if_pos c79]; exact q0
            refine r_aload_n dX9_fewestOf_81 rfl ?_
            refine r_getR flX9_25_9 rfl (hs1.lt (by decide)) (hs1.T 44 rfl) (hs1.R 44 15 rfl) dX9_fewestOf_82 ?_
            refine r_iconst (v := 4) dX9_fewestOf_85 (by decide) ?_
            refine r_iload_n dX9_fewestOf_86 rfl ?_
            refine r_imul dX9_fewestOf_87 ?_
            refine r_ial (hs1.T 50 rfl) (hs1.lt (by decide)) (ix40 (by omega) (by decide)) dX9_fewestOf_88 ?_
            refine r_goto 93 dX9_fewestOf_89 (by decide) ?_
            exact hJ93 _ hfin2
      · skip
        refine r_aload_n dX9_fewestOf_32 rfl ?_
        refine r_getR flX9_25_9 rfl (hs1.lt (by decide)) (hs1.T 44 rfl) (hs1.R 44 15 rfl) dX9_fewestOf_33 ?_
        refine r_iconst (v := 4) dX9_fewestOf_36 (by decide) ?_
        refine r_iload_n dX9_fewestOf_37 rfl ?_
        refine r_imul dX9_fewestOf_38 ?_
        refine r_iconst (v := 2) dX9_fewestOf_39 (by decide) ?_
        refine r_iadd dX9_fewestOf_40 ?_
        refine r_ial (hs1.T 50 rfl) (hs1.lt (by decide)) (ix4 (c := 2) (by omega) (by decide)) dX9_fewestOf_41 ?_
        refine r_iload_n dX9_fewestOf_42 rfl ?_
        refine r_icmp_ne 57 dX9_fewestOf_43 (by decide) (fun c43 => ?_) (fun c43 => ?_)
        · skip
          rw [q2] at c43
          have hfin : (0 : Int32) = (if yp δ i = nI j then zw σ i else 0) := by rw [if_neg c43]
          refine r_iconst (v := 0) dX9_fewestOf_57 (by decide) ?_
          exact hJ58 _ hfin
        · skip
          rw [q2] at c43
          have hfin : mI M2 50 (4 * i) = (if yp δ i = nI j then zw σ i else 0) := by rw [if_pos c43]; exact q0
          refine r_aload_n dX9_fewestOf_46 rfl ?_
          refine r_getR flX9_25_9 rfl (hs1.lt (by decide)) (hs1.T 44 rfl) (hs1.R 44 15 rfl) dX9_fewestOf_47 ?_
          refine r_iconst (v := 4) dX9_fewestOf_50 (by decide) ?_
          refine r_iload_n dX9_fewestOf_51 rfl ?_
          refine r_imul dX9_fewestOf_52 ?_
          refine r_ial (hs1.T 50 rfl) (hs1.lt (by decide)) (ix40 (by omega) (by decide)) dX9_fewestOf_53 ?_
          refine r_goto 58 dX9_fewestOf_54 (by decide) ?_
          exact hJ58 _ hfin
set_option maxHeartbeats 4000000 in
set_option maxRecDepth 100000 in
theorem lp_rfewH (g : Gx) (x : Cx) (P : Int32 → Mm → Prop) (M : Mm) (σ : Ab) (δ : Dy) (C : RA σ δ M) (hP : ∀ M' r, Fr [54, 55] [] M M' → fewQ σ δ r → P r M') : ∀ (n : Nat) (i : Nat) (v : Int32) (M1 : Mm), i ≤ 8 → 8 - i < n → v = nI i → Fr [55] [] M M1 → (∀ h, h < i → mI M1 55 h = balF σ δ h (zS σ)) → Vj x g yX9_fewestOf cX9_fewestOf 4 (Option.some FieldType.int) rmX9_fewestOf (Qm x g rmX9_fewestOf.cells rmX9_fewestOf.slots (pI P)) 0 0 M1 2 [(0, some (.ref (g.1 + 44))), (1, some (.int v))] [] := by
  intro n
  induction n with
  | zero => intro i v M1 hi8 hn hv hF hb; omega
  | succ n ih =>
    intro i v M1 hi8 hn hv hF hb
    have hs1 := C.1.fr hF
    subst hv
    have hv : nI i = nI i := rfl
    refine r_iload_n dX9_fewestOf_2 rfl ?_
    refine r_bipush (v := 8) dX9_fewestOf_3 (by decide) ?_
    refine r_icmp_ge 107 dX9_fewestOf_5 (by decide) (fun c5 => ?_) (fun c5 => ?_)
    · skip
      have ez := lp_ge (n := 8) hv rfl c5 hi8 (by decide)
      subst ez
      refine r_aload_n dX9_fewestOf_107 rfl ?_
      refine r_getR flX9_38_9 rfl (hs1.lt (by decide)) (hs1.T 44 rfl) (hs1.R 44 19 rfl) dX9_fewestOf_108 ?_
      refine r_iconst (v := 0) dX9_fewestOf_111 (by decide) ?_
      refine r_iconst (v := 0) dX9_fewestOf_112 (by decide) ?_
      refine r_ias (hs1.T 54 rfl) (hs1.lt (by decide)) (ix_nI (j := 0) (by decide) (by decide)) dX9_fewestOf_113 ?_
      refine r_iconst (v := 1) dX9_fewestOf_114 (by decide) ?_
      refine r_istore_n dX9_fewestOf_115 (by decide) rfl ?_
      exact r_lv (lvSc rfl (lvSc rfl lvS0)) (lp_rfewG g x P M1 σ δ (C.fr hF (by simp)) hb (fun M' r f e => hP M' r ((hF.mono (by simp) (by simp)).tr (f.mono (by simp) (by simp))) e) 256 1 1 (fun _ => 1) _ (by omega) (by omega) (by omega) rfl ((Fr.rf _ _ _).sI (by simp)) (fun k hk => by rw [show k = 0 by omega, mI_sI, va_up_self]; rfl) ⟨rfl, fun k k1 k2 => by omega⟩)
    · skip
      have hi8 : i < 8 := lp_lt (n := 8) hv rfl c5 hi8 (by decide)
      refine r_aload_n dX9_fewestOf_8 rfl ?_
      refine r_getR flX9_41_9 rfl (hs1.lt (by decide)) (hs1.T 44 rfl) (hs1.R 44 20 rfl) dX9_fewestOf_9 ?_
      refine r_iload_n dX9_fewestOf_12 rfl ?_
      refine r_iconst (v := 0) dX9_fewestOf_13 (by decide) ?_
      refine r_ias (hs1.T 55 rfl) (hs1.lt (by decide)) (ix_nI hi8 (by decide)) dX9_fewestOf_14 ?_
      refine r_iconst (v := 0) dX9_fewestOf_15 (by decide) ?_
      refine r_istore_n dX9_fewestOf_16 (by decide) rfl ?_
      exact r_lv (lvSc rfl (lvSc rfl (lvSc rfl lvS0))) (lp_rfewS g x P M σ δ C i hi8 (sI M1 55 i 0) (fun M2 v f1 f2 f3 f4 => ih (i + 1) v M2 (by omega) (by omega) f4 f1 (fun h hh => by
        by_cases e : h = i
        · rw [e]; exact f2
        · rw [f3 h e, mI_sI, va_up_ne _ _ e]; exact hb h (by omega))) (zS σ + 1) 0 0 _ (by omega) (by omega) rfl (hF.sI (by simp)) (by rw [mI_sI, va_up_self]; rfl) (fun k _ => rfl))
set_option maxHeartbeats 4000000 in
set_option maxRecDepth 100000 in
theorem kX9_fewestOf (g : Gx) (M : Mm) (σ : Ab) (δ : Dy) (C : RA σ δ M) : Ct g yX9_fewestOf cX9_fewestOf 4 (Option.some FieldType.int) rmX9_fewestOf [.ref (g.1 + 44)] M (pI fun r M' => Fr [54, 55] [] M M' ∧ fewQ σ δ r) := by
  refine Ct.of rfl (Nat.le_of_ble_eq_true rfl) (fun x => ?_)
  refine r_iconst (v := 0) dX9_fewestOf_0 (by decide) ?_
  refine r_istore_n dX9_fewestOf_1 (by decide) rfl ?_
  exact r_lv (lvSc rfl (lvSc rfl lvS0)) (lp_rfewH g x _ M σ δ C (fun M' r f e => ⟨f, e⟩) 9 0 0 M (by omega) (by omega) rfl (Fr.rf _ _ _) (fun h hh => by omega))
def rmX9_fewest : Room := { frames := 2, cells := 0, slots := 0, locals := 46 }
set_option maxHeartbeats 4000000 in
set_option maxRecDepth 100000 in
theorem kX9_fewest (g : Gx) (M : Mm) (σ : Ab) (δ : Dy) (C : RA σ δ M) : Ct g yX9_fewest cX9_fewest 1 (Option.some FieldType.int) rmX9_fewest [.ref (g.1 + 44)] M (pI fun r M' => Fr [54, 55] [] M M' ∧ fewQ σ δ r) := by
  refine Ct.of rfl (Nat.le_of_ble_eq_true rfl) (fun x => ?_)
  refine r_aload_n dX9_fewest_0 rfl ?_
  refine r_cV0i cvX9_208 (kX9_fewestOf g M σ δ C) (C.1.lt (by decide)) (C.1.T 44 rfl) ⟨Nat.le_of_ble_eq_true rfl, Nat.le_of_ble_eq_true rfl⟩ (Nat.le_of_ble_eq_true rfl) ⟨Nat.le_of_ble_eq_true rfl, Nat.le_of_ble_eq_true rfl⟩ dX9_fewest_1 (fun z1 M1 h1 => ?_)
  exact r_iret dX9_fewest_4 ⟨_, rfl, h1⟩
