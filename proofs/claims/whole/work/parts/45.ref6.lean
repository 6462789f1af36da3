/-! the reference: whom to pay -/
theorem orB {σ : Ab} {h : Int32} : ∀ n, n ≤ 8 → ∀ t, t < 8 → (orF σ h n).toBitVec.getLsbD t = (decide (t < n) && decide (zp σ t = h))
  | 0, _, t, _ => by simp [orF]
  | n + 1, hn, t, ht => by
    rw [orF, Int32.toBitVec_or, BitVec.getLsbD_or, orB n (by omega) t ht]
    by_cases e : zp σ n = h
    · rw [if_pos e, bitsh n (by omega) t ht]
      by_cases q : t = n
      · subst q; simp [e]
      · have : (t < n + 1) ↔ t < n := by omega
        simp [q, this]
    · rw [if_neg e]
      by_cases q : t = n
      · subst q; simp [e]
      · have : (t < n + 1) ↔ t < n := by omega
        simp [this]
theorem bm1 {t : Nat} (h : t < 8) : (-1 : Int32).toBitVec.getLsbD t = true := by
  rcases (show t = 0 ∨ t = 1 ∨ t = 2 ∨ t = 3 ∨ t = 4 ∨ t = 5 ∨ t = 6 ∨ t = 7 by omega) with e | e | e | e | e | e | e | e <;> subst e <;> decide
theorem setO {a b : Int32} (h : a &&& (b ^^^ -1) = 0) {t : Nat} (ht : t < 8) (ha : a.toBitVec.getLsbD t = true) : b.toBitVec.getLsbD t = true := by
  have e := congrArg (fun v : Int32 => v.toBitVec.getLsbD t) h
  simp only [Int32.toBitVec_and, Int32.toBitVec_xor, BitVec.getLsbD_and, BitVec.getLsbD_xor, bm1 ht, ha] at e
  simpa using e
theorem bit1 {v : Int32} {t : Nat} (ht : t < 8) : bitI v t = 1 ↔ v.toBitVec.getLsbD t = true := by
  rw [bitB v ht]
  by_cases e : v.toBitVec.getLsbD t = true
  · rw [if_pos e]; simp [e]
  · rw [if_neg e]; simp [e]
theorem own_p {σ : Ab} (w : Wf σ) {h a : Int32} (c : a &&& (orF σ h (zN σ) ^^^ -1) = 0) {t : Nat} (ht : t < zN σ) (e : bitI a t = 1) : zp σ t = h := by
  have h8 : t < 8 := Nat.lt_of_lt_of_le ht w.1
  have q := setO c h8 ((bit1 h8).mp e)
  rw [orB _ w.1 t h8] at q
  simp at q
  exact q.2
theorem own_d {σ : Ab} (w : Wf σ) {h a p : Int32} {pd : Rw} (c : a &&& (orF σ h (zN σ) ^^^ -1) = 0) {t : Nat} (ht : t < zN σ) (hp : bitI p t = pd t) : bitI (p &&& (orF σ h (zN σ) ^^^ -1) ||| a) t = pdS σ h a pd t := by
  have h8 : t < 8 := Nat.lt_of_lt_of_le ht w.1
  have b1 := bitB (p &&& (orF σ h (zN σ) ^^^ -1) ||| a) h8
  rw [Int32.toBitVec_or, Int32.toBitVec_and, Int32.toBitVec_xor, BitVec.getLsbD_or, BitVec.getLsbD_and, BitVec.getLsbD_xor, bm1 h8, orB _ w.1 t h8] at b1
  rw [b1]
  unfold pdS
  by_cases e : zp σ t = h
  · rw [if_pos e, bitB a h8]
    simp [e, ht]
  · have n : ¬ a.toBitVec.getLsbD t = true := fun q => e (own_p w c ht ((bit1 h8).mpr q))
    rw [if_neg e, ← hp, bitB p h8]
    simp [e, n]
theorem fee_s {σ : Ab} (w : Wf σ) {h a m : Int32} (c : a &&& (orF σ h (zN σ) ^^^ -1) = 0) : ∀ n, n ≤ zN σ → sumF (fun t => if bitI a t = 1 then m * zf σ t else 0) n = feS σ h a n * m
  | 0, _ => by show (0 : Int32) = 0 * m; grind
  | n + 1, hn => by
    have ih := fee_s w (h := h) (m := m) c n (by omega)
    rw [sumF, ih]
    show _ = (feS σ h a n + (if zp σ n = h then (if bitI a n = 0 then 0 else zf σ n) else 0)) * m
    rcases bit01 a n with e | e
    · rw [e, if_neg (by decide), if_pos rfl]
      split <;> grind
    · rw [if_pos e, if_pos (own_p w c (by omega) e), if_neg (by rw [e]; decide)]
      grind
theorem bs_le {σ : Ab} {δ : Dy} {h m : Int32} : ∀ k, (bsF σ δ h m k).1 ≤ k
  | 0 => Nat.le_refl 0
  | k + 1 => by
    have := bs_le (σ := σ) (δ := δ) (h := h) (m := m) k
    rw [bsF]
    split
    · exact Nat.le_succ k
    · omega
theorem bs_1 {σ : Ab} {δ : Dy} {h m : Int32} {k : Nat} (c : (nI k &&& (orF σ h (zN σ) ^^^ -1)) = 0) (b : (bsF σ δ h m k).2 < lefF σ δ h m (nI k) ∨ (lefF σ δ h m (nI k) = (bsF σ δ h m k).2 ∧ popN k < popN (bsF σ δ h m k).1)) : bsF σ δ h m (k + 1) = (k, lefF σ δ h m (nI k)) := by rw [bsF, if_pos ⟨c, b⟩]
theorem bs_0 {σ : Ab} {δ : Dy} {h m : Int32} {k : Nat} (c : ¬ ((nI k &&& (orF σ h (zN σ) ^^^ -1)) = 0 ∧ ((bsF σ δ h m k).2 < lefF σ δ h m (nI k) ∨ (lefF σ δ h m (nI k) = (bsF σ δ h m k).2 ∧ popN k < popN (bsF σ δ h m k).1)))) : bsF σ δ h m (k + 1) = bsF σ δ h m k := by rw [bsF, if_neg c]
theorem pop_le : ∀ k, k < 256 → popN k ≤ 8 := by decide +kernel
def rmX9_whomOf : Room := { frames := 3, cells := 0, slots := 0, locals := 78 }
set_option maxHeartbeats 4000000 in
set_option maxRecDepth 100000 in
theorem bk_rwhom (g : Gx) (x : Cx) (P : Int32 → Mm → Prop) (M : Mm) (σ : Ab) (δ : Dy) (C : RA σ δ M) (h u : Int32) (mm : Nat) (hmm : mm ≤ 12) (k : Nat) (hk : k < 256) (hc : nI k &&& (orF σ h (zN σ) ^^^ -1) = 0) (M2 : Mm) (hF : Fr [51, 52] [] M M2) (ps : Rw) (hps : ∀ s, s < zS σ → mI M2 51 s = ps s) (eps : ps = (itF σ (pdS σ h (nI k) (yq δ)) (yd δ) mm (yp δ) (yl δ)).1) (acc : Int32) (ea : acc + feS σ h (nI k) (zN σ) * nI mm = 0) (K : ∀ (v b mo : Int32), v = nI (k + 1) → b = nI (bsF σ δ h (nI mm) (k + 1)).1 → mo = (bsF σ δ h (nI mm) (k + 1)).2 → Vj x g yX9_whomOf cX9_whomOf 11 (Option.some FieldType.int) rmX9_whomOf (Qm x g rmX9_whomOf.cells rmX9_whomOf.slots (pI P)) 0 0 M2 59 [(0, some (.ref (g.1 + 44))), (1, some (.int h)), (2, some (.int (nI mm))), (3, some (.int u)), (4, some (.int (orF σ h (zN σ)))), (5, some (.int b)), (6, some (.int mo)), (7, some (.int v))] []) : Vj x g yX9_whomOf cX9_whomOf 11 (Option.some FieldType.int) rmX9_whomOf (Qm x g rmX9_whomOf.cells rmX9_whomOf.slots (pI P)) 0 0 M2 174 [(0, some (.ref (g.1 + 44))), (1, some (.int h)), (2, some (.int (nI mm))), (3, some (.int u)), (4, some (.int (orF σ h (zN σ)))), (5, some (.int (nI (bsF σ δ h (nI mm) k).1))), (6, some (.int (bsF σ δ h (nI mm) k).2)), (7, some (.int (nI k))), (8, some (.int acc))] [] := by
  obtain ⟨hs, w, dw, V, r1, r2, r3, r4, r5, r6, r7⟩ := id C
  have hs1 := hs.fr hF
  refine r_iload dX9_whomOf_174 rfl ?_
  refine r_aload_n dX9_whomOf_176 rfl ?_
  refine r_iload_n dX9_whomOf_177 rfl ?_
  refine r_cV1i cvX9_178 (kX9_inHouse g M2 σ δ (C.fr hF (by simp)) ps hps h) (hs1.lt (by decide)) (hs1.T 44 rfl) ⟨Nat.le_of_ble_eq_true rfl, Nat.le_of_ble_eq_true rfl⟩ (Nat.le_of_ble_eq_true rfl) ⟨Nat.le_of_ble_eq_true rfl, Nat.le_of_ble_eq_true rfl⟩ dX9_whomOf_178 (fun z178 M178 h178 => ?_)
  obtain ⟨e178, h178⟩ := h178
  replace e178 := e178.symm
  subst e178
  have eL : acc + z178 = lefF σ δ h (nI mm) (nI k) := by
    rw [h178, lefF, nI_clamp (by omega), ← eps]
    show acc + inH σ ps h = _
    grind
  refine r_iadd dX9_whomOf_181 ?_
  refine r_istore dX9_whomOf_182 (by decide) rfl ?_
  rw [eL]
  refine r_dia (P := fun u => (u = 1 ∧ ((bsF σ δ h (nI mm) k).2 < lefF σ δ h (nI mm) (nI k) ∨ (lefF σ δ h (nI mm) (nI k) = (bsF σ δ h (nI mm) k).2 ∧ popN k < popN (bsF σ δ h (nI mm) k).1))) ∨ (u = 0 ∧ ¬ ((bsF σ δ h (nI mm) k).2 < lefF σ δ h (nI mm) (nI k) ∨ (lefF σ δ h (nI mm) (nI k) = (bsF σ δ h (nI mm) k).2 ∧ popN k < popN (bsF σ δ h (nI mm) k).1)))) 216 (fun v9 hv9 => ?_) (fun hJ216 => ?_)
  · skip
    refine r_istore dX9_whomOf_216 (by decide) rfl ?_
    refine r_iload dX9_whomOf_218 rfl ?_
    refine r_if_eq 228 dX9_whomOf_220 (by decide) (fun c220 => ?_) (fun c220 => ?_)
    · skip
      refine r_iload dX9_whomOf_228 rfl ?_
      refine r_istore dX9_whomOf_230 (by decide) rfl ?_
      refine r_iload dX9_whomOf_232 rfl ?_
      refine r_if_eq 242 dX9_whomOf_234 (by decide) (fun c234 => ?_) (fun c234 => ?_)
      · skip
        refine r_iload dX9_whomOf_242 rfl ?_
        refine r_istore dX9_whomOf_244 (by decide) rfl ?_
        refine r_iinc dX9_whomOf_246 rfl rfl rfl ?_
        refine r_goto 59 dX9_whomOf_249 (by decide) ?_
        have eb := bs_0 (fun z => (hv9.resolve_left (fun q => absurd (q.1.symm.trans c220) (by decide))).2 z.2)
        exact r_lv (lvSc rfl (lvSc rfl (lvSc rfl (lvSc rfl (lvSc rfl (lvSc rfl (lvSc rfl (lvSc rfl lvS0)))))))) (K _ _ _ (nI_inc rfl) (by rw [eb]) (by rw [eb]))
      · skip
        refine r_iload dX9_whomOf_237 rfl ?_
        refine r_goto 244 dX9_whomOf_239 (by decide) ?_
        refine r_istore dX9_whomOf_244 (by decide) rfl ?_
        refine r_iinc dX9_whomOf_246 rfl rfl rfl ?_
        refine r_goto 59 dX9_whomOf_249 (by decide) ?_
        exact absurd c220 c234
    · skip
      refine r_iload dX9_whomOf_223 rfl ?_
      refine r_goto 230 dX9_whomOf_225 (by decide) ?_
      refine r_istore dX9_whomOf_230 (by decide) rfl ?_
      refine r_iload dX9_whomOf_232 rfl ?_
      refine r_if_eq 242 dX9_whomOf_234 (by decide) (fun c234 => ?_) (fun c234 => ?_)
      · skip
        refine r_iload dX9_whomOf_242 rfl ?_
        refine r_istore dX9_whomOf_244 (by decide) rfl ?_
        refine r_iinc dX9_whomOf_246 rfl rfl rfl ?_
        refine r_goto 59 dX9_whomOf_249 (by decide) ?_
        exact absurd c234 c220
      · skip
        refine r_iload dX9_whomOf_237 rfl ?_
        refine r_goto 244 dX9_whomOf_239 (by decide) ?_
        refine r_istore dX9_whomOf_244 (by decide) rfl ?_
        refine r_iinc dX9_whomOf_246 rfl rfl rfl ?_
        refine r_goto 59 dX9_whomOf_249 (by decide) ?_
        have eb := bs_1 hc (hv9.resolve_right (fun q => c220 q.1)).2
        exact r_lv (lvSc rfl (lvSc rfl (lvSc rfl (lvSc rfl (lvSc rfl (lvSc rfl (lvSc rfl (lvSc rfl lvS0)))))))) (K _ _ _ (nI_inc rfl) (by rw [eb]) (by rw [eb]))
  · skip
    refine r_iload dX9_whomOf_184 rfl ?_
    refine r_iload dX9_whomOf_186 rfl ?_
    refine r_icmp_gt 211 dX9_whomOf_188 (by decide) (fun c188 => ?_) (fun c188 => ?_)
    · skip
      have hfin : ((1 : Int32) = 1 ∧ ((bsF σ δ h (nI mm) k).2 < lefF σ δ h (nI mm) (nI k) ∨ (lefF σ δ h (nI mm) (nI k) = (bsF σ δ h (nI mm) k).2 ∧ popN k < popN (bsF σ δ h (nI mm) k).1))) ∨ ((1 : Int32) = 0 ∧ ¬ ((bsF σ δ h (nI mm) k).2 < lefF σ δ h (nI mm) (nI k) ∨ (lefF σ δ h (nI mm) (nI k) = (bsF σ δ h (nI mm) k).2 ∧ popN k < popN (bsF σ δ h (nI mm) k).1))) := Or.inl ⟨rfl, Or.inl c188⟩
      refine r_iconst (v := 1) dX9_whomOf_211 (by decide) ?_
      refine r_goto 216 dX9_whomOf_212 (by decide) ?_
      exact hJ216 _ hfin
    · skip
      refine r_iload dX9_whomOf_191 rfl ?_
      refine r_iload dX9_whomOf_193 rfl ?_
      refine r_icmp_ne 215 dX9_whomOf_195 (by decide) (fun c195 => ?_) (fun c195 => ?_)
      · skip
        have hfin : ((0 : Int32) = 1 ∧ ((bsF σ δ h (nI mm) k).2 < lefF σ δ h (nI mm) (nI k) ∨ (lefF σ δ h (nI mm) (nI k) = (bsF σ δ h (nI mm) k).2 ∧ popN k < popN (bsF σ δ h (nI mm) k).1))) ∨ ((0 : Int32) = 0 ∧ ¬ ((bsF σ δ h (nI mm) k).2 < lefF σ δ h (nI mm) (nI k) ∨ (lefF σ δ h (nI mm) (nI k) = (bsF σ δ h (nI mm) k).2 ∧ popN k < popN (bsF σ δ h (nI mm) k).1))) := Or.inr ⟨rfl, fun q => q.elim c188 (fun z => c195 z.1)⟩
        refine r_iconst (v := 0) dX9_whomOf_215 (by decide) ?_
        exact hJ216 _ hfin
      · skip
        refine r_iload dX9_whomOf_198 rfl ?_
        refine r_cS1i csX9_181 (kX9_ones g M2 k hk) hs1.pos ⟨Nat.le_of_ble_eq_true rfl, Nat.le_of_ble_eq_true rfl⟩ (Nat.le_of_ble_eq_true rfl) ⟨Nat.le_of_ble_eq_true rfl, Nat.le_of_ble_eq_true rfl⟩ dX9_whomOf_200 (fun z200 M200 h200 => ?_)
        obtain ⟨e200, h200⟩ := h200
        replace e200 := e200.symm
        subst e200
        refine r_iload dX9_whomOf_203 rfl ?_
        refine r_cS1i csX9_181 (kX9_ones g M2 (bsF σ δ h (nI mm) k).1 (Nat.lt_of_le_of_lt (bs_le k) hk)) hs1.pos ⟨Nat.le_of_ble_eq_true rfl, Nat.le_of_ble_eq_true rfl⟩ (Nat.le_of_ble_eq_true rfl) ⟨Nat.le_of_ble_eq_true rfl, Nat.le_of_ble_eq_true rfl⟩ dX9_whomOf_205 (fun z205 M205 h205 => ?_)
        obtain ⟨e205, h205⟩ := h205
        replace e205 := e205.symm
        subst e205
        refine r_icmp_ge 215 dX9_whomOf_208 (by decide) (fun c208 => ?_) (fun c208 => ?_)
        · skip
          rw [h200, h205] at c208
          have hfin : ((0 : Int32) = 1 ∧ ((bsF σ δ h (nI mm) k).2 < lefF σ δ h (nI mm) (nI k) ∨ (lefF σ δ h (nI mm) (nI k) = (bsF σ δ h (nI mm) k).2 ∧ popN k < popN (bsF σ δ h (nI mm) k).1))) ∨ ((0 : Int32) = 0 ∧ ¬ ((bsF σ δ h (nI mm) k).2 < lefF σ δ h (nI mm) (nI k) ∨ (lefF σ δ h (nI mm) (nI k) = (bsF σ δ h (nI mm) k).2 ∧ popN k < popN (bsF σ δ h (nI mm) k).1))) := Or.inr ⟨rfl, fun q => q.elim c188 (fun z => by have := (nI_leI (by have := pop_le _ (Nat.lt_of_le_of_lt (bs_le (σ := σ) (δ := δ) (h := h) (m := nI mm) k) hk); omega) (by have := pop_le k hk; omega)).mp c208; omega)⟩
          refine r_iconst (v := 0) dX9_whomOf_215 (by decide) ?_
          exact hJ216 _ hfin
        · skip
          rw [h200, h205] at c208
          have hfin : ((1 : Int32) = 1 ∧ ((bsF σ δ h (nI mm) k).2 < lefF σ δ h (nI mm) (nI k) ∨ (lefF σ δ h (nI mm) (nI k) = (bsF σ δ h (nI mm) k).2 ∧ popN k < popN (bsF σ δ h (nI mm) k).1))) ∨ ((1 : Int32) = 0 ∧ ¬ ((bsF σ δ h (nI mm) k).2 < lefF σ δ h (nI mm) (nI k) ∨ (lefF σ δ h (nI mm) (nI k) = (bsF σ δ h (nI mm) k).2 ∧ popN k < popN (bsF σ δ h (nI mm) k).1))) := Or.inl ⟨rfl, Or.inr ⟨c195, Nat.lt_of_not_le (fun q => c208 (nI_le q (by have := pop_le k hk; omega)))⟩⟩
          refine r_iconst (v := 1) dX9_whomOf_211 (by decide) ?_
          refine r_goto 216 dX9_whomOf_212 (by decide) ?_
          exact hJ216 _ hfin
set_option maxHeartbeats 4000000 in
set_option maxRecDepth 100000 in
theorem lp_rwhomM (g : Gx) (x : Cx) (P : Int32 → Mm → Prop) (M : Mm) (σ : Ab) (δ : Dy) (C : RA σ δ M) (h u : Int32) (mm : Nat) (hmm : mm ≤ 12) (k : Nat) (hk : k < 256) (hc : nI k &&& (orF σ h (zN σ) ^^^ -1) = 0) (acc : Int32) (K : ∀ (M2 : Mm) (ps : Rw), Fr [51, 52] [] M M2 → (∀ s, s < zS σ → mI M2 51 s = ps s) → ps = (itF σ (pdS σ h (nI k) (yq δ)) (yd δ) mm (yp δ) (yl δ)).1 → Vj x g yX9_whomOf cX9_whomOf 11 (Option.some FieldType.int) rmX9_whomOf (Qm x g rmX9_whomOf.cells rmX9_whomOf.slots (pI P)) 0 0 M2 174 [(0, some (.ref (g.1 + 44))), (1, some (.int h)), (2, some (.int (nI mm))), (3, some (.int u)), (4, some (.int (orF σ h (zN σ)))), (5, some (.int (nI (bsF σ δ h (nI mm) k).1))), (6, some (.int (bsF σ δ h (nI mm) k).2)), (7, some (.int (nI k))), (8, some (.int acc))] []) : ∀ (n : Nat) (i : Nat) (v : Int32) (M1 : Mm) (ps1 lo1 : Rw), i ≤ mm → mm - i < n → v = nI i → Fr [51, 52] [] M M1 → RD M1 σ (yd δ) lo1 ps1 → (∀ h, h < 8 → 0 ≤ lo1 h) → itF σ (pdS σ h (nI k) (yq δ)) (yd δ) (mm - i) ps1 lo1 = itF σ (pdS σ h (nI k) (yq δ)) (yd δ) mm (yp δ) (yl δ) → Vj x g yX9_whomOf cX9_whomOf 11 (Option.some FieldType.int) rmX9_whomOf (Qm x g rmX9_whomOf.cells rmX9_whomOf.slots (pI P)) 0 0 M1 141 [(0, some (.ref (g.1 + 44))), (1, some (.int h)), (2, some (.int (nI mm))), (3, some (.int u)), (4, some (.int (orF σ h (zN σ)))), (5, some (.int (nI (bsF σ δ h (nI mm) k).1))), (6, some (.int (bsF σ δ h (nI mm) k).2)), (7, some (.int (nI k))), (8, some (.int acc)), (9, some (.int v))] [] := by
  intro n
  induction n with
  | zero => intro i v M1 ps1 lo1 him hn hv hF D1 hl1 ei; omega
  | succ n ih =>
    intro i v M1 ps1 lo1 him hn hv hF D1 hl1 ei
    obtain ⟨hs, w, dw, V, r1, r2, r3, r4, r5, r6, r7⟩ := id C
    have hs1 := hs.fr hF
    have V1 := V.fr hF (by simp)
    have g1 : mI M1 44 = mI M 44 := hF.2.1 44 (by decide)
    subst hv
    have hv : nI i = nI i := rfl
    refine r_iload dX9_whomOf_141 rfl ?_
    refine r_iload_n dX9_whomOf_143 rfl ?_
    refine r_icmp_ge 174 dX9_whomOf_144 (by decide) (fun c144 => ?_) (fun c144 => ?_)
    · skip
      have ez := lp_ge (n := mm) hv rfl c144 him (by omega)
      subst ez
      rw [Nat.sub_self] at ei
      exact r_lv (lvSc rfl (lvSc rfl (lvSc rfl (lvSc rfl (lvSc rfl (lvSc rfl (lvSc rfl (lvSc rfl (lvSc rfl lvS0))))))))) (K M1 ps1 hF D1.1 (by rw [← ei]; rfl))
    · skip
      have hi : i < mm := lp_lt (n := mm) hv rfl c144 him (by omega)
      refine r_aload_n dX9_whomOf_147 rfl ?_
      refine r_sipush (v := 255) dX9_whomOf_148 (by decide) ?_
      refine r_aload_n dX9_whomOf_151 rfl ?_
      refine r_getI flX9_94_9 rfl (hs1.lt (by decide)) (hs1.T 44 rfl) dX9_whomOf_152 ?_
      refine r_iload dX9_whomOf_155 rfl ?_
      refine r_iconst (v := -1) dX9_whomOf_157 (by decide) ?_
      refine r_ixor dX9_whomOf_158 ?_
      refine r_iand dX9_whomOf_159 ?_
      refine r_iload dX9_whomOf_160 rfl ?_
      refine r_ior dX9_whomOf_162 ?_
      refine r_cV2i cvX9_154 (kX9_passA g M1 hs1 σ w V1 (pdS σ h (nI k) (yq δ)) (yd δ) lo1 ps1 D1 hl1 (mI M1 44 8 &&& (orF σ h (zN σ) ^^^ -1) ||| nI k) (fun t ht => own_d w hc ht (by rw [g1]; exact r4 t ht))) (hs1.lt (by decide)) (hs1.T 44 rfl) ⟨Nat.le_of_ble_eq_true rfl, Nat.le_of_ble_eq_true rfl⟩ (Nat.le_of_ble_eq_true rfl) ⟨Nat.le_of_ble_eq_true rfl, Nat.le_of_ble_eq_true rfl⟩ dX9_whomOf_163 (fun z163 M163 h163 => ?_)
      obtain ⟨hF163, e163, D163⟩ := h163
      have hs163 := hs1.fr hF163
      refine r_istore dX9_whomOf_166 (by decide) rfl ?_
      refine r_iinc dX9_whomOf_168 rfl rfl rfl ?_
      refine r_goto 141 dX9_whomOf_171 (by decide) ?_
      exact r_lv (lvSc rfl (lvSc rfl (lvSc rfl (lvSc rfl (lvSc rfl (lvSc rfl (lvSc rfl (lvSc rfl (lvSc rfl (lvSc rfl lvS0)))))))))) (ih (i + 1) _ _ (passF σ (pdS σ h (nI k) (yq δ)) (yd δ) lo1 allT ps1 (zN σ)).2 (lapF lo1) (by omega) (by omega) (nI_inc rfl) (hF.tr hF163) D163 (lapF_0 hl1) (by rw [← ei, show mm - i = mm - (i + 1) + 1 by omega, itF]))
set_option maxHeartbeats 4000000 in
set_option maxRecDepth 100000 in
theorem lp_rwhomF (g : Gx) (x : Cx) (P : Int32 → Mm → Prop) (M : Mm) (σ : Ab) (δ : Dy) (C : RA σ δ M) (h u : Int32) (mm : Nat) (hmm : mm ≤ 12) (k : Nat) (hk : k < 256) (hc : nI k &&& (orF σ h (zN σ) ^^^ -1) = 0) (M1 : Mm) (hF : Fr [51, 52] [] M M1) (K : ∀ (acc : Int32), acc + feS σ h (nI k) (zN σ) * nI mm = 0 → Vj x g yX9_whomOf cX9_whomOf 11 (Option.some FieldType.int) rmX9_whomOf (Qm x g rmX9_whomOf.cells rmX9_whomOf.slots (pI P)) 0 0 M1 141 [(0, some (.ref (g.1 + 44))), (1, some (.int h)), (2, some (.int (nI mm))), (3, some (.int u)), (4, some (.int (orF σ h (zN σ)))), (5, some (.int (nI (bsF σ δ h (nI mm) k).1))), (6, some (.int (bsF σ δ h (nI mm) k).2)), (7, some (.int (nI k))), (8, some (.int acc)), (9, some (.int 0))] []) : ∀ (n : Nat) (i : Nat) (v acc : Int32), i ≤ zN σ → zN σ - i < n → v = nI i → acc + sumF (fun t => if bitI (nI k) t = 1 then nI mm * zf σ t else 0) i = 0 → Vj x g yX9_whomOf cX9_whomOf 11 (Option.some FieldType.int) rmX9_whomOf (Qm x g rmX9_whomOf.cells rmX9_whomOf.slots (pI P)) 0 0 M1 90 [(0, some (.ref (g.1 + 44))), (1, some (.int h)), (2, some (.int (nI mm))), (3, some (.int u)), (4, some (.int (orF σ h (zN σ)))), (5, some (.int (nI (bsF σ δ h (nI mm) k).1))), (6, some (.int (bsF σ δ h (nI mm) k).2)), (7, some (.int (nI k))), (8, some (.int acc)), (9, some (.int v))] [] := by
  intro n
  induction n with
  | zero => intro i v acc hiN hn hv ha; omega
  | succ n ih =>
    intro i v acc hiN hn hv ha
    obtain ⟨hs, w, dw, V, r1, r2, r3, r4, r5, r6, r7⟩ := id C
    have hs1 := hs.fr hF
    have g1 : mI M1 44 = mI M 44 := hF.2.1 44 (by decide)
    subst hv
    have hv : nI i = nI i := rfl
    refine r_iload dX9_whomOf_90 rfl ?_
    refine r_aload_n dX9_whomOf_92 rfl ?_
    refine r_getI flX9_91_9 rfl (hs1.lt (by decide)) (hs1.T 44 rfl) dX9_whomOf_93 ?_
    refine r_icmp_ge 138 dX9_whomOf_96 (by decide) (fun c96 => ?_) (fun c96 => ?_)
    · skip
      rw [g1] at c96
      have ez := lp_ge (n := zN σ) hv V.1 c96 hiN (by have := w.1; omega)
      subst ez
      refine r_iconst (v := 0) dX9_whomOf_138 (by decide) ?_
      refine r_istore dX9_whomOf_139 (by decide) rfl ?_
      exact r_lv (lvSc rfl (lvSc rfl (lvSc rfl (lvSc rfl (lvSc rfl (lvSc rfl (lvSc rfl (lvSc rfl (lvSc rfl (lvSc rfl lvS0)))))))))) (K _ (by rw [← fee_s w hc _ (Nat.le_refl _)]; exact ha))
    · skip
      rw [g1] at c96
      have hi : i < zN σ := lp_lt (n := zN σ) hv V.1 c96 hiN (by have := w.1; omega)
      have hi8 : i < 8 := Nat.lt_of_lt_of_le hi w.1
      refine r_iload dX9_whomOf_99 rfl ?_
      refine r_dia (P := fun q => q = (fun t => if bitI (nI k) t = 1 then nI mm * zf σ t else 0) i) 129 (fun q hq => ?_) (fun hJ129 => ?_)
      · skip
        refine r_isub dX9_whomOf_129 ?_
        refine r_istore dX9_whomOf_130 (by decide) rfl ?_
        refine r_iinc dX9_whomOf_132 rfl rfl rfl ?_
        refine r_goto 90 dX9_whomOf_135 (by decide) ?_
        exact r_lv (lvSc rfl (lvSc rfl (lvSc rfl (lvSc rfl (lvSc rfl (lvSc rfl (lvSc rfl (lvSc rfl (lvSc rfl (lvSc rfl lvS0)))))))))) (ih (i + 1) _ _ (by omega) (by omega) (nI_inc rfl) (by rw [sumF, hq]; grind))
      · skip
        refine r_iload dX9_whomOf_101 rfl ?_
        refine r_iload dX9_whomOf_103 rfl ?_
        refine r_ishr dX9_whomOf_105 ?_
        refine r_iconst (v := 1) dX9_whomOf_106 (by decide) ?_
        refine r_iand dX9_whomOf_107 ?_
        refine r_iconst (v := 1) dX9_whomOf_108 (by decide) ?_
        refine r_icmp_ne 128 dX9_whomOf_109 (by decide) (fun c109 => ?_) (fun c109 => ?_)
        · skip
          have hfin : (0 : Int32) = (fun t => if bitI (nI k) t = 1 then nI mm * zf σ t else 0) i := by
            show _ = ite _ _ _
            rw [if_neg (show ¬ bitI (nI k) i = 1 from c109)]
          refine r_iconst (v := 0) dX9_whomOf_128 (by decide) ?_
          exact hJ129 _ hfin
        · skip
          have hfin : nI mm * mI M1 47 (4 * i + 3) = (fun t => if bitI (nI k) t = 1 then nI mm * zf σ t else 0) i := by
            show _ = ite _ _ _
            rw [if_pos (show bitI (nI k) i = 1 from c109), hF.2.1 47 (by decide), show mI M 47 (4 * i + 3) = _ from (V.2.2.1 i hi).2.2.2]
          refine r_iload_n dX9_whomOf_112 rfl ?_
          refine r_aload_n dX9_whomOf_113 rfl ?_
          refine r_getR flX9_16_9 rfl (hs1.lt (by decide)) (hs1.T 44 rfl) (hs1.R 44 7 rfl) dX9_whomOf_114 ?_
          refine r_iconst (v := 4) dX9_whomOf_117 (by decide) ?_
          refine r_iload dX9_whomOf_118 rfl ?_
          refine r_imul dX9_whomOf_120 ?_
          refine r_iconst (v := 3) dX9_whomOf_121 (by decide) ?_
          refine r_iadd dX9_whomOf_122 ?_
          refine r_ial (hs1.T 47 rfl) (hs1.lt (by decide)) (ix4 (c := 3) (by omega) (by decide)) dX9_whomOf_123 ?_
          refine r_imul dX9_whomOf_124 ?_
          refine r_goto 129 dX9_whomOf_125 (by decide) ?_
          exact hJ129 _ hfin
set_option maxHeartbeats 4000000 in
set_option maxRecDepth 100000 in
theorem lp_rwhom (g : Gx) (x : Cx) (M : Mm) (σ : Ab) (δ : Dy) (C : RA σ δ M) (h u : Int32) (mm : Nat) (hmm : mm ≤ 12) : ∀ (n : Nat) (i : Nat) (v : Int32) (M1 : Mm), i ≤ 2 ^ zN σ → 2 ^ zN σ - i < n → v = nI i → Fr [51, 52] [] M M1 → Vj x g yX9_whomOf cX9_whomOf 11 (Option.some FieldType.int) rmX9_whomOf (Qm x g rmX9_whomOf.cells rmX9_whomOf.slots (pI fun r M' => Fr [51, 52] [] M M' ∧ r = if u = 0 then (bsF σ δ h (nI mm) (2 ^ zN σ)).2 else nI (bsF σ δ h (nI mm) (2 ^ zN σ)).1)) 0 0 M1 59 [(0, some (.ref (g.1 + 44))), (1, some (.int h)), (2, some (.int (nI mm))), (3, some (.int u)), (4, some (.int (orF σ h (zN σ)))), (5, some (.int (nI (bsF σ δ h (nI mm) i).1))), (6, some (.int (bsF σ δ h (nI mm) i).2)), (7, some (.int v))] [] := by
  intro n
  induction n with
  | zero => intro i v M1 hiK hn hv hF; omega
  | succ n ih =>
    intro i v M1 hiK hn hv hF
    obtain ⟨hs, w, dw, V, r1, r2, r3, r4, r5, r6, r7⟩ := id C
    have hs1 := hs.fr hF
    have g1 : mI M1 44 = mI M 44 := hF.2.1 44 (by decide)
    subst hv
    have hv : nI i = nI i := rfl
    refine r_iload dX9_whomOf_59 rfl ?_
    refine r_iconst (v := 1) dX9_whomOf_61 (by decide) ?_
    refine r_aload_n dX9_whomOf_62 rfl ?_
    refine r_getI flX9_91_9 rfl (hs1.lt (by decide)) (hs1.T 44 rfl) dX9_whomOf_63 ?_
    refine r_ishl dX9_whomOf_66 ?_
    refine r_icmp_ge 252 dX9_whomOf_67 (by decide) (fun c67 => ?_) (fun c67 => ?_)
    · skip
      rw [g1, V.1, shl1 w.1] at c67
      have ez := lp_ge (n := 2 ^ zN σ) hv rfl c67 hiK (by have := pow8 w.1; omega)
      subst ez
      refine r_iload_n dX9_whomOf_252 rfl ?_
      refine r_if_ne 261 dX9_whomOf_253 (by decide) (fun c253 => ?_) (fun c253 => ?_)
      · skip
        refine r_iload dX9_whomOf_261 rfl ?_
        exact r_iret dX9_whomOf_263 ⟨_, rfl, hF, by rw [if_neg c253]⟩
      · skip
        refine r_iload dX9_whomOf_256 rfl ?_
        refine r_goto 263 dX9_whomOf_258 (by decide) ?_
        exact r_iret dX9_whomOf_263 ⟨_, rfl, hF, by rw [if_pos c253]⟩
    · skip
      rw [g1, V.1, shl1 w.1] at c67
      have hi : i < 2 ^ zN σ := lp_lt (n := 2 ^ zN σ) hv rfl c67 hiK (by have := pow8 w.1; omega)
      have h256 : i < 256 := by have := pow8 w.1; omega
      refine r_iload dX9_whomOf_70 rfl ?_
      refine r_iload dX9_whomOf_72 rfl ?_
      refine r_iconst (v := -1) dX9_whomOf_74 (by decide) ?_
      refine r_ixor dX9_whomOf_75 ?_
      refine r_iand dX9_whomOf_76 ?_
      refine r_if_ne 246 dX9_whomOf_77 (by decide) (fun c77 => ?_) (fun c77 => ?_)
      · skip
        refine r_iinc dX9_whomOf_246 rfl rfl rfl ?_
        refine r_goto 59 dX9_whomOf_249 (by decide) ?_
        have eb := bs_0 (σ := σ) (δ := δ) (h := h) (m := nI mm) (k := i) (fun z => c77 z.1)
        rw [← eb]
        exact r_lv (lvSc rfl (lvSc rfl (lvSc rfl (lvSc rfl (lvSc rfl (lvSc rfl (lvSc rfl (lvSc rfl lvS0)))))))) (ih (i + 1) _ M1 (by omega) (by omega) (nI_inc rfl) hF)
      · skip
        refine r_aload_n dX9_whomOf_80 rfl ?_
        refine r_cV0v cvX9_151 (kX9_begin g M1 σ δ (C.fr hF (by simp))) (hs1.lt (by decide)) (hs1.T 44 rfl) ⟨Nat.le_of_ble_eq_true rfl, Nat.le_of_ble_eq_true rfl⟩ (Nat.le_of_ble_eq_true rfl) ⟨Nat.le_of_ble_eq_true rfl, Nat.le_of_ble_eq_true rfl⟩ dX9_whomOf_81 (fun M81 h81 => ?_)
        obtain ⟨hF81, D81⟩ := h81
        have hT := hF.tr hF81
        have hs81 := hs1.fr hF81
        refine r_iconst (v := 0) dX9_whomOf_84 (by decide) ?_
        refine r_istore dX9_whomOf_85 (by decide) rfl ?_
        refine r_iconst (v := 0) dX9_whomOf_87 (by decide) ?_
        refine r_istore dX9_whomOf_88 (by decide) rfl ?_
        exact r_lv (lvSc rfl (lvSc rfl (lvSc rfl (lvSc rfl (lvSc rfl (lvSc rfl (lvSc rfl (lvSc rfl (lvSc rfl (lvSc rfl lvS0)))))))))) (lp_rwhomF g x _ M σ δ C h u mm hmm i h256 c77 M81 hT (fun acc ea => lp_rwhomM g x _ M σ δ C h u mm hmm i h256 c77 acc (fun M2 ps f e1 e2 => bk_rwhom g x _ M σ δ C h u mm hmm i h256 c77 M2 f ps e1 e2 acc ea (fun v b mo ev eb em => by subst eb; subst em; exact ih (i + 1) v M2 (by omega) (by omega) ev f)) (mm + 1) 0 0 M81 (yp δ) (yl δ) (by omega) (by omega) rfl hT D81 dw.1 rfl) (zN σ + 1) 0 0 0 (by omega) (by omega) rfl rfl)
set_option maxHeartbeats 4000000 in
set_option maxRecDepth 100000 in
theorem lp_rwhomO (g : Gx) (x : Cx) (M : Mm) (σ : Ab) (δ : Dy) (C : RA σ δ M) (h u : Int32) (mm : Nat) (hmm : mm ≤ 12) : ∀ (n : Nat) (i : Nat) (v b : Int32), i ≤ zN σ → zN σ - i < n → v = nI i → b = orF σ h i → Vj x g yX9_whomOf cX9_whomOf 11 (Option.some FieldType.int) rmX9_whomOf (Qm x g rmX9_whomOf.cells rmX9_whomOf.slots (pI fun r M' => Fr [51, 52] [] M M' ∧ r = if u = 0 then (bsF σ δ h (nI mm) (2 ^ zN σ)).2 else nI (bsF σ δ h (nI mm) (2 ^ zN σ)).1)) 0 0 M 6 [(0, some (.ref (g.1 + 44))), (1, some (.int h)), (2, some (.int (nI mm))), (3, some (.int u)), (4, some (.int b)), (5, some (.int v))] [] := by
  intro n
  induction n with
  | zero => intro i v b hiN hn hv hb; omega
  | succ n ih =>
    intro i v b hiN hn hv hb
    obtain ⟨hs, w, dw, V, r1, r2, r3, r4, r5, r6, r7⟩ := id C
    subst hv
    have hv : nI i = nI i := rfl
    refine r_iload dX9_whomOf_6 rfl ?_
    refine r_aload_n dX9_whomOf_8 rfl ?_
    refine r_getI flX9_91_9 rfl (hs.lt (by decide)) (hs.T 44 rfl) dX9_whomOf_9 ?_
    refine r_icmp_ge 49 dX9_whomOf_12 (by decide) (fun c12 => ?_) (fun c12 => ?_)
    · skip
      have ez := lp_ge (n := zN σ) hv V.1 c12 hiN (by have := w.1; omega)
      subst ez
      subst hb
      refine r_iconst (v := 0) dX9_whomOf_49 (by decide) ?_
      refine r_istore dX9_whomOf_50 (by decide) rfl ?_
      refine r_ldc (v := -1000000) dX9_whomOf_52 tw896 ?_
      refine r_istore dX9_whomOf_54 (by decide) rfl ?_
      refine r_iconst (v := 0) dX9_whomOf_56 (by decide) ?_
      refine r_istore dX9_whomOf_57 (by decide) rfl ?_
      exact r_lv (lvSc rfl (lvSc rfl (lvSc rfl (lvSc rfl (lvSc rfl (lvSc rfl (lvSc rfl (lvSc rfl lvS0)))))))) (lp_rwhom g x M σ δ C h u mm hmm (2 ^ zN σ + 1) 0 0 M (Nat.zero_le _) (Nat.lt_succ_of_le (Nat.sub_le _ _)) rfl (Fr.rf _ _ _))
    · skip
      have hi : i < zN σ := lp_lt (n := zN σ) hv V.1 c12 hiN (by have := w.1; omega)
      have hi8 : i < 8 := Nat.lt_of_lt_of_le hi w.1
      refine r_iload dX9_whomOf_15 rfl ?_
      refine r_dia (P := fun q => q = (if zp σ i = h then (1 : Int32) <<< (nI i &&& 31) else 0)) 40 (fun q hq => ?_) (fun hJ40 => ?_)
      · skip
        refine r_ior dX9_whomOf_40 ?_
        refine r_istore dX9_whomOf_41 (by decide) rfl ?_
        refine r_iinc dX9_whomOf_43 rfl rfl rfl ?_
        refine r_goto 6 dX9_whomOf_46 (by decide) ?_
        exact r_lv (lvSc rfl (lvSc rfl (lvSc rfl (lvSc rfl (lvSc rfl (lvSc rfl lvS0)))))) (ih (i + 1) _ _ (by omega) (by omega) (nI_inc rfl) (by rw [orF, hb, hq]))
      · skip
        refine r_aload_n dX9_whomOf_17 rfl ?_
        refine r_getR flX9_16_9 rfl (hs.lt (by decide)) (hs.T 44 rfl) (hs.R 44 7 rfl) dX9_whomOf_18 ?_
        refine r_iconst (v := 4) dX9_whomOf_21 (by decide) ?_
        refine r_iload dX9_whomOf_22 rfl ?_
        refine r_imul dX9_whomOf_24 ?_
        refine r_iconst (v := 1) dX9_whomOf_25 (by decide) ?_
        refine r_iadd dX9_whomOf_26 ?_
        refine r_ial (hs.T 47 rfl) (hs.lt (by decide)) (ix4 (c := 1) (by omega) (by decide)) dX9_whomOf_27 ?_
        refine r_iload_n dX9_whomOf_28 rfl ?_
        refine r_icmp_ne 39 dX9_whomOf_29 (by decide) (fun c29 => ?_) (fun c29 => ?_)
        · skip
          rw [show mI M 47 (4 * i + 1) = _ from (V.2.2.1 i hi).2.1] at c29
          have hfin : (0 : Int32) = (if zp σ i = h then (1 : Int32) <<< (nI i &&& 31) else 0) := by rw [if_neg c29]
          refine r_iconst (v := 0) dX9_whomOf_39 (by decide) ?_
          exact hJ40 _ hfin
        · skip
          rw [show mI M 47 (4 * i + 1) = _ from (V.2.2.1 i hi).2.1] at c29
          have hfin : (1 : Int32) <<< (nI i &&& 31) = (if zp σ i = h then (1 : Int32) <<< (nI i &&& 31) else 0) := by rw [if_pos c29]
          refine r_iconst (v := 1) dX9_whomOf_32 (by decide) ?_
          refine r_iload dX9_whomOf_33 rfl ?_
          refine r_ishl dX9_whomOf_35 ?_
          refine r_goto 40 dX9_whomOf_36 (by decide) ?_
          exact hJ40 _ hfin
set_option maxHeartbeats 4000000 in
set_option maxRecDepth 100000 in
theorem kX9_whomOf (g : Gx) (M : Mm) (σ : Ab) (δ : Dy) (C : RA σ δ M) (h u : Int32) (mm : Nat) (hmm : mm ≤ 12) : Ct g yX9_whomOf cX9_whomOf 11 (Option.some FieldType.int) rmX9_whomOf [.ref (g.1 + 44), .int h, .int (nI mm), .int u] M (pI fun r M' => Fr [51, 52] [] M M' ∧ r = if u = 0 then (bsF σ δ h (nI mm) (2 ^ zN σ)).2 else nI (bsF σ δ h (nI mm) (2 ^ zN σ)).1) := by
  refine Ct.of rfl (Nat.le_of_ble_eq_true rfl) (fun x => ?_)
  refine r_iconst (v := 0) dX9_whomOf_0 (by decide) ?_
  refine r_istore dX9_whomOf_1 (by decide) rfl ?_
  refine r_iconst (v := 0) dX9_whomOf_3 (by decide) ?_
  refine r_istore dX9_whomOf_4 (by decide) rfl ?_
  exact r_lv (lvSc rfl (lvSc rfl (lvSc rfl (lvSc rfl (lvSc rfl (lvSc rfl lvS0)))))) (lp_rwhomO g x M σ δ C h u mm hmm (zN σ + 1) 0 0 0 (by omega) (by omega) rfl rfl)
def rmX9_whom : Room := { frames := 4, cells := 0, slots := 0, locals := 108 }
set_option maxHeartbeats 4000000 in
set_option maxRecDepth 100000 in
theorem kX9_whom (g : Gx) (M : Mm) (σ : Ab) (δ : Dy) (C : RA σ δ M) (h m u : Int32) : Ct g yX9_whom cX9_whom 4 (Option.some FieldType.int) rmX9_whom [.ref (g.1 + 44), .int h, .int m, .int u] M (pI fun r M' => Fr [51, 52] [] M M' ∧ r = whmR σ δ h m u) := by
  obtain ⟨hs, w, dw, V, r1, r2, r3, r4, r5, r6, r7⟩ := id C
  refine Ct.of rfl (Nat.le_of_ble_eq_true rfl) (fun x => ?_)
  refine r_iload_n dX9_whom_0 rfl ?_
  refine r_cS1i csX9_116 (kX9_isHouse g M hs h) hs.pos ⟨Nat.le_of_ble_eq_true rfl, Nat.le_of_ble_eq_true rfl⟩ (Nat.le_of_ble_eq_true rfl) ⟨Nat.le_of_ble_eq_true rfl, Nat.le_of_ble_eq_true rfl⟩ dX9_whom_1 (fun z1 M1 h1 => ?_)
  obtain ⟨e1, h1⟩ := h1
  replace e1 := e1.symm
  subst e1
  refine r_if_ne 10 dX9_whom_4 (by decide) (fun c4 => ?_) (fun c4 => ?_)
  · skip
    refine r_iload_n dX9_whom_10 rfl ?_
    refine r_i2l dX9_whom_11 ?_
    refine r_lconst (v := 0) dX9_whom_12 (by decide) ?_
    refine r_ldc2_w (v := 12) dX9_whom_13 tw889 ?_
    refine r_cS3i csX9_70 (kX9_in g M m.toInt64 0 12) hs.pos ⟨Nat.le_of_ble_eq_true rfl, Nat.le_of_ble_eq_true rfl⟩ (Nat.le_of_ble_eq_true rfl) ⟨Nat.le_of_ble_eq_true rfl, Nat.le_of_ble_eq_true rfl⟩ dX9_whom_16 (fun z16 M16 h16 => ?_)
    obtain ⟨e16, h16⟩ := h16
    replace e16 := e16.symm
    subst e16
    replace h16 := inI 0 12 h16
    refine r_if_eq 32 dX9_whom_19 (by decide) (fun c19 => ?_) (fun c19 => ?_)
    · skip
      refine r_ldc (v := -100102) dX9_whom_32 tw890 ?_
      exact r_iret dX9_whom_34 ⟨_, rfl, Fr.rf _ _ _, by rw [whmR, if_pos (one_of h1 c4), if_neg (fun z => zero_of h16 c19 z.1)]⟩
    · skip
      refine r_iload_n dX9_whom_22 rfl ?_
      refine r_i2l dX9_whom_23 ?_
      refine r_lconst (v := 0) dX9_whom_24 (by decide) ?_
      refine r_lconst (v := 1) dX9_whom_25 (by decide) ?_
      refine r_cS3i csX9_70 (kX9_in g M u.toInt64 0 1) hs.pos ⟨Nat.le_of_ble_eq_true rfl, Nat.le_of_ble_eq_true rfl⟩ (Nat.le_of_ble_eq_true rfl) ⟨Nat.le_of_ble_eq_true rfl, Nat.le_of_ble_eq_true rfl⟩ dX9_whom_26 (fun z26 M26 h26 => ?_)
      obtain ⟨e26, h26⟩ := h26
      replace e26 := e26.symm
      subst e26
      replace h26 := inI 0 1 h26
      refine r_if_ne 35 dX9_whom_29 (by decide) (fun c29 => ?_) (fun c29 => ?_)
      · skip
        refine r_aload_n dX9_whom_35 rfl ?_
        refine r_cV0i cvX9_147 (kX9_lacks g M hs) (hs.lt (by decide)) (hs.T 44 rfl) ⟨Nat.le_of_ble_eq_true rfl, Nat.le_of_ble_eq_true rfl⟩ (Nat.le_of_ble_eq_true rfl) ⟨Nat.le_of_ble_eq_true rfl, Nat.le_of_ble_eq_true rfl⟩ dX9_whom_36 (fun z36 M36 h36 => ?_)
        obtain ⟨e36, h36⟩ := h36
        replace e36 := e36.symm
        subst e36
        rw [V.1, ite_iff (nI_zero w.1)] at h36
        refine r_if_eq 47 dX9_whom_39 (by decide) (fun c39 => ?_) (fun c39 => ?_)
        · skip
          obtain ⟨mm, hmm, em⟩ := nI_rng (n := 12) (one_of h16 c19).1 (one_of h16 c19).2 (by decide)
          refine r_aload_n dX9_whom_47 rfl ?_
          refine r_iload_n dX9_whom_48 rfl ?_
          refine r_iload_n dX9_whom_49 rfl ?_
          refine r_iload_n dX9_whom_50 rfl ?_
          refine r_cV3i cvX9_189 ((show Ct _ _ _ _ _ _ [.ref (g.1 + 44), .int h, .int m, .int u] _ _ from by rw [em]; exact kX9_whomOf g M σ δ C h u mm hmm)) (hs.lt (by decide)) (hs.T 44 rfl) ⟨Nat.le_of_ble_eq_true rfl, Nat.le_of_ble_eq_true rfl⟩ (Nat.le_of_ble_eq_true rfl) ⟨Nat.le_of_ble_eq_true rfl, Nat.le_of_ble_eq_true rfl⟩ dX9_whom_51 (fun z51 M51 h51 => ?_)
          exact r_iret dX9_whom_54 ⟨_, rfl, h51.1, by rw [whmR, if_pos (one_of h1 c4), if_pos ⟨one_of h16 c19, one_of h26 c29⟩, if_neg (zero_of h36 c39), em]; exact h51.2⟩
        · skip
          refine r_ldc (v := -100103) dX9_whom_42 tw891 ?_
          refine r_goto 54 dX9_whom_44 (by decide) ?_
          exact r_iret dX9_whom_54 ⟨_, rfl, Fr.rf _ _ _, by rw [whmR, if_pos (one_of h1 c4), if_pos ⟨one_of h16 c19, one_of h26 c29⟩, if_pos (one_of h36 c39)]⟩
      · skip
        refine r_ldc (v := -100102) dX9_whom_32 tw890 ?_
        exact r_iret dX9_whom_34 ⟨_, rfl, Fr.rf _ _ _, by rw [whmR, if_pos (one_of h1 c4), if_neg (fun z => zero_of h26 c29 z.2)]⟩
  · skip
    refine r_ldc (v := -100101) dX9_whom_7 tw888 ?_
    exact r_iret dX9_whom_9 ⟨_, rfl, Fr.rf _ _ _, by rw [whmR, if_neg (zero_of h1 c4)]⟩
