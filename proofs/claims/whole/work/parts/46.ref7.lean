/-! the reference: months by a seed, images -/
theorem RA.f44 {σ : Ab} {δ : Dy} {M M' : Mm} {is ls : List Nat} (h : RA σ δ M) (f : Fr is ls M M') (hi : ∀ a ∈ is, a ≠ 47 ∧ a ≠ 50 ∧ a ≠ 48 ∧ a ≠ 49) (e : ∀ k, k = 5 ∨ k = 8 ∨ k = 10 ∨ k = 11 ∨ k = 12 ∨ k = 13 → mI M' 44 k = mI M 44 k) : RA σ δ M' := by
  obtain ⟨h1, h2, h3, h4, r1, r2, r3, r4, r5, r6, r7⟩ := h
  have e2 := f.2.1 47 (fun q => (hi _ q).1 rfl)
  have e3 := f.2.1 50 (fun q => (hi _ q).2.1 rfl)
  have e4 := f.2.1 48 (fun q => (hi _ q).2.2.1 rfl)
  have e5 := f.2.1 49 (fun q => (hi _ q).2.2.2 rfl)
  refine ⟨h1.fr f, h2, h3, h4.of44 e2 e3 (e 5 (by decide)) (e 10 (by decide)), by rw [e3]; exact r1, by rw [e5]; exact r2, by rw [e 13 (by decide)]; exact r3, by rw [e 8 (by decide)]; exact r4, by rw [e4]; exact r5, by rw [e 11 (by decide)]; exact r6, by rw [e 12 (by decide)]; exact r7⟩
def rmX9_draw : Room := { frames := 0, cells := 0, slots := 0, locals := 0 }
set_option maxHeartbeats 4000000 in
set_option maxRecDepth 100000 in
theorem kX9_draw (g : Gx) (M : Mm) (hs : St M) : Ct g yX9_draw cX9_draw 2 (Option.some FieldType.int) rmX9_draw [.ref (g.1 + 44), .int 10] M (pI fun r M' => M' = sI M 44 21 (nxS (mI M 44 21)) ∧ r = drT (nxS (mI M 44 21))) := by
  refine Ct.of rfl (Nat.le_of_ble_eq_true rfl) (fun x => ?_)
  refine r_aload_n dX9_draw_0 rfl ?_
  refine r_ldc2_w (v := 1103515245) dX9_draw_1 tw956 ?_
  refine r_aload_n dX9_draw_4 rfl ?_
  refine r_getI flX9_213_9 rfl (hs.lt (by decide)) (hs.T 44 rfl) dX9_draw_5 ?_
  refine r_i2l dX9_draw_8 ?_
  refine r_lmul dX9_draw_9 ?_
  refine r_ldc2_w (v := 12345) dX9_draw_10 tw957 ?_
  refine r_ladd dX9_draw_13 ?_
  refine r_ldc2_w (v := 2147483647) dX9_draw_14 tw958 ?_
  refine r_land dX9_draw_17 ?_
  refine r_l2i dX9_draw_18 ?_
  refine r_putI fpX9_213_9 rfl (hs.lt (by decide)) (hs.T 44 rfl) rfl rfl dX9_draw_19 ?_
  refine r_aload_n dX9_draw_22 rfl ?_
  refine r_getI flX9_213_9 rfl (hs.lt (by decide)) (hs.T 44 rfl) dX9_draw_23 ?_
  refine r_ldc (v := 65536) dX9_draw_26 tw959 ?_
  refine r_idiv dX9_draw_28 (by decide) ?_
  refine r_iload_n dX9_draw_29 rfl ?_
  refine r_irem dX9_draw_30 (by decide) ?_
  exact r_iret dX9_draw_31 ⟨_, rfl, rfl, by rw [mI_sI, va_up_self]; rfl⟩
def rmX9_months : Room := { frames := 3, cells := 0, slots := 0, locals := 78 }
theorem ms_lo {σ : Ab} {δ : Dy} (dw : DW σ δ) (v : Int32) : ∀ n, ∀ h, h < 8 → 0 ≤ (msF σ δ v n).2.2.2 h
  | 0 => dw.1
  | n + 1 => lapF_0 (ms_lo dw v n)
theorem rw_1 {wh s : Int32} {te : Rw} {i : Nat} (hi : i < 8) (h : ∀ t, t < 8 → (bitI wh t = 1 ↔ t < i ∧ drT (sdF s (t + 1)) < te t)) (c : drT (sdF s (i + 1)) < te i) : ∀ t, t < 8 → (bitI (wh ||| (1 : Int32) <<< (nI i &&& 31)) t = 1 ↔ t < i + 1 ∧ drT (sdF s (t + 1)) < te t) := by
  intro t ht
  rw [bit_set _ hi ht]
  by_cases e : t = i
  · subst e; simp [c]
  · rw [if_neg e, h t ht]
    have : (t < i + 1) ↔ t < i := by omega
    rw [this]
theorem rw_0 {wh s : Int32} {te : Rw} {i : Nat} (h : ∀ t, t < 8 → (bitI wh t = 1 ↔ t < i ∧ drT (sdF s (t + 1)) < te t)) (c : ¬ drT (sdF s (i + 1)) < te i) : ∀ t, t < 8 → (bitI (wh ||| 0) t = 1 ↔ t < i + 1 ∧ drT (sdF s (t + 1)) < te t) := by
  intro t ht
  rw [Int32.or_zero, h t ht]
  by_cases e : t = i
  · subst e; simp [c]
  · have : (t < i + 1) ↔ t < i := by omega
    rw [this]
set_option maxHeartbeats 4000000 in
set_option maxRecDepth 100000 in
theorem lp_rmosH (g : Gx) (x : Cx) (P : Int32 → Mm → Prop) (M : Mm) (σ : Ab) (δ : Dy) (C : RA σ δ M) (mm : Nat) (hmm : mm ≤ 60) (v0 u : Int32) (ps : Rw) (hps : ∀ s, s < zS σ → mI M 51 s = ps s) (ma : Int32) (hP : P (if u = 0 then homF σ ps else if u = 1 then ma else mI M 44 21) M) : ∀ (n : Nat) (i : Nat) (v b : Int32), i ≤ zS σ → zS σ - i < n → v = nI i → b = sumF (fun s => if ps s = zo σ s then zw σ s else 0) i → Vj x g yX9_months cX9_months 8 (Option.some FieldType.int) rmX9_months (Qm x g rmX9_months.cells rmX9_months.slots (pI P)) 0 0 M 143 [(0, some (.ref (g.1 + 44))), (1, some (.int (nI mm))), (2, some (.int v0)), (3, some (.int u)), (4, some (.int ma)), (5, some (.int b)), (6, some (.int v))] [] := by
  intro n
  induction n with
  | zero => intro i v b hiS hn hv hb; omega
  | succ n ih =>
    intro i v b hiS hn hv hb
    obtain ⟨hs, w, dw, V, r1, r2, r3, r4, r5, r6, r7⟩ := id C
    subst hv
    have hv : nI i = nI i := rfl
    refine r_iload dX9_months_143 rfl ?_
    refine r_aload_n dX9_months_145 rfl ?_
    refine r_getI flX9_113_9 rfl (hs.lt (by decide)) (hs.T 44 rfl) dX9_months_146 ?_
    refine r_icmp_ge 197 dX9_months_149 (by decide) (fun c149 => ?_) (fun c149 => ?_)
    · skip
      have e0 := lp_ge (n := zS σ) hv V.2.1 c149 hiS (by have := w.2.1; omega)
      subst e0
      refine r_iload_n dX9_months_197 rfl ?_
      refine r_if_ne 206 dX9_months_198 (by decide) (fun c198 => ?_) (fun c198 => ?_)
      · skip
        refine r_iload_n dX9_months_206 rfl ?_
        refine r_iconst (v := 1) dX9_months_207 (by decide) ?_
        refine r_icmp_ne 216 dX9_months_208 (by decide) (fun c208 => ?_) (fun c208 => ?_)
        · skip
          refine r_aload_n dX9_months_216 rfl ?_
          refine r_getI flX9_213_9 rfl (hs.lt (by decide)) (hs.T 44 rfl) dX9_months_217 ?_
          exact r_iret dX9_months_220 ⟨_, rfl, by rw [if_neg c198, if_neg c208] at hP; exact hP⟩
        · skip
          refine r_iload dX9_months_211 rfl ?_
          refine r_goto 220 dX9_months_213 (by decide) ?_
          exact r_iret dX9_months_220 ⟨_, rfl, by rw [if_neg c198, if_pos c208] at hP; exact hP⟩
      · skip
        refine r_iload dX9_months_201 rfl ?_
        refine r_goto 220 dX9_months_203 (by decide) ?_
        exact r_iret dX9_months_220 ⟨_, rfl, by rw [if_pos c198] at hP; rw [hb]; exact hP⟩
    · skip
      have hi : i < zS σ := lp_lt (n := zS σ) hv V.2.1 c149 hiS (by have := w.2.1; omega)
      have hi8 : i < 8 := Nat.lt_of_lt_of_le hi w.2.1
      refine r_iload dX9_months_152 rfl ?_
      refine r_dia (P := fun q => q = (fun s => if ps s = zo σ s then zw σ s else 0) i) 188 (fun q hq => ?_) (fun hJ188 => ?_)
      · skip
        refine r_iadd dX9_months_188 ?_
        refine r_istore dX9_months_189 (by decide) rfl ?_
        refine r_iinc dX9_months_191 rfl rfl rfl ?_
        refine r_goto 143 dX9_months_194 (by decide) ?_
        exact r_lv (lvSc rfl (lvSc rfl (lvSc rfl (lvSc rfl (lvSc rfl (lvSc rfl (lvSc rfl lvS0))))))) (ih (i + 1) _ _ (by omega) (by omega) (nI_inc rfl) (by rw [sumF, hb, hq]))
      · skip
        refine r_aload_n dX9_months_154 rfl ?_
        refine r_getR flX9_28_9 rfl (hs.lt (by decide)) (hs.T 44 rfl) (hs.R 44 16 rfl) dX9_months_155 ?_
        refine r_iload dX9_months_158 rfl ?_
        refine r_ial (hs.T 51 rfl) (hs.lt (by decide)) (ix_nI hi8 (by decide)) dX9_months_160 ?_
        refine r_aload_n dX9_months_161 rfl ?_
        refine r_getR flX9_25_9 rfl (hs.lt (by decide)) (hs.T 44 rfl) (hs.R 44 15 rfl) dX9_months_162 ?_
        refine r_iconst (v := 4) dX9_months_165 (by decide) ?_
        refine r_iload dX9_months_166 rfl ?_
        refine r_imul dX9_months_168 ?_
        refine r_iconst (v := 1) dX9_months_169 (by decide) ?_
        refine r_iadd dX9_months_170 ?_
        refine r_ial (hs.T 50 rfl) (hs.lt (by decide)) (ix4 (c := 1) (by omega) (by decide)) dX9_months_171 ?_
        refine r_icmp_ne 187 dX9_months_172 (by decide) (fun c172 => ?_) (fun c172 => ?_)
        · skip
          rw [hps i hi, show mI M 50 (4 * i + 1) = _ from (V.2.2.2 i hi).2] at c172
          have hfin : (0 : Int32) = (fun s => if ps s = zo σ s then zw σ s else 0) i := by
            show _ = ite _ _ _
            rw [if_neg c172]
          refine r_iconst (v := 0) dX9_months_187 (by decide) ?_
          exact hJ188 _ hfin
        · skip
          rw [hps i hi, show mI M 50 (4 * i + 1) = _ from (V.2.2.2 i hi).2] at c172
          have hfin : mI M 50 (4 * i) = (fun s => if ps s = zo σ s then zw σ s else 0) i := by
            show _ = ite _ _ _
            rw [if_pos c172]; exact (V.2.2.2 i hi).1
          refine r_aload_n dX9_months_175 rfl ?_
          refine r_getR flX9_25_9 rfl (hs.lt (by decide)) (hs.T 44 rfl) (hs.R 44 15 rfl) dX9_months_176 ?_
          refine r_iconst (v := 4) dX9_months_179 (by decide) ?_
          refine r_iload dX9_months_180 rfl ?_
          refine r_imul dX9_months_182 ?_
          refine r_ial (hs.T 50 rfl) (hs.lt (by decide)) (ix40 (by omega) (by decide)) dX9_months_183 ?_
          refine r_goto 188 dX9_months_184 (by decide) ?_
          exact hJ188 _ hfin
set_option maxHeartbeats 4000000 in
set_option maxRecDepth 100000 in
theorem lp_rmosD (g : Gx) (x : Cx) (P : Int32 → Mm → Prop) (M : Mm) (σ : Ab) (δ : Dy) (C : RA σ δ M) (mm : Nat) (hmm : mm ≤ 60) (v0 u : Int32) (ma kk : Int32) (K : ∀ (M2 : Mm) (wh v : Int32), Fr [44] [] M M2 → (∀ k, k ≠ 21 → mI M2 44 k = mI M 44 k) → mI M2 44 21 = sdF (mI M 44 21) (zN σ) → (∀ t, t < zN σ → (bitI wh t = 1 ↔ drT (sdF (mI M 44 21) (t + 1)) < yt δ t)) → Vj x g yX9_months cX9_months 8 (Option.some FieldType.int) rmX9_months (Qm x g rmX9_months.cells rmX9_months.slots (pI P)) 0 0 M2 112 [(0, some (.ref (g.1 + 44))), (1, some (.int (nI mm))), (2, some (.int v0)), (3, some (.int u)), (4, some (.int ma)), (5, some (.int kk)), (6, some (.int wh)), (7, some (.int v))] []) : ∀ (n : Nat) (i : Nat) (v wh : Int32) (M1 : Mm), i ≤ zN σ → zN σ - i < n → v = nI i → Fr [44] [] M M1 → (∀ k, k ≠ 21 → mI M1 44 k = mI M 44 k) → mI M1 44 21 = sdF (mI M 44 21) i → (∀ t, t < 8 → (bitI wh t = 1 ↔ t < i ∧ drT (sdF (mI M 44 21) (t + 1)) < yt δ t)) → Vj x g yX9_months cX9_months 8 (Option.some FieldType.int) rmX9_months (Qm x g rmX9_months.cells rmX9_months.slots (pI P)) 0 0 M1 68 [(0, some (.ref (g.1 + 44))), (1, some (.int (nI mm))), (2, some (.int v0)), (3, some (.int u)), (4, some (.int ma)), (5, some (.int kk)), (6, some (.int wh)), (7, some (.int v))] [] := by
  intro n
  induction n with
  | zero => intro i v wh M1 hiN hn hv hF ek es hw; omega
  | succ n ih =>
    intro i v wh M1 hiN hn hv hF ek es hw
    obtain ⟨hs, w, dw, V, r1, r2, r3, r4, r5, r6, r7⟩ := id C
    have hs1 := hs.fr hF
    subst hv
    have hv : nI i = nI i := rfl
    refine r_iload dX9_months_68 rfl ?_
    refine r_aload_n dX9_months_70 rfl ?_
    refine r_getI flX9_91_9 rfl (hs1.lt (by decide)) (hs1.T 44 rfl) dX9_months_71 ?_
    refine r_icmp_ge 112 dX9_months_74 (by decide) (fun c74 => ?_) (fun c74 => ?_)
    · skip
      rw [ek 5 (by decide)] at c74
      have ez := lp_ge (n := zN σ) hv V.1 c74 hiN (by have := w.1; omega)
      subst ez
      exact r_lv (lvSc rfl (lvSc rfl (lvSc rfl (lvSc rfl (lvSc rfl (lvSc rfl (lvSc rfl (lvSc rfl lvS0)))))))) (K M1 wh _ hF ek es (fun t ht => by rw [hw t (by have := w.1; omega)]; simp [ht]))
    · skip
      rw [ek 5 (by decide)] at c74
      have hi : i < zN σ := lp_lt (n := zN σ) hv V.1 c74 hiN (by have := w.1; omega)
      have hi8 : i < 8 := Nat.lt_of_lt_of_le hi w.1
      refine r_iload dX9_months_77 rfl ?_
      refine r_aload_n dX9_months_79 rfl ?_
      refine r_bipush (v := 10) dX9_months_80 (by decide) ?_
      refine r_cV1i cvX9_221 (kX9_draw g M1 hs1) (hs1.lt (by decide)) (hs1.T 44 rfl) ⟨Nat.le_of_ble_eq_true rfl, Nat.le_of_ble_eq_true rfl⟩ (Nat.le_of_ble_eq_true rfl) ⟨Nat.le_of_ble_eq_true rfl, Nat.le_of_ble_eq_true rfl⟩ dX9_months_82 (fun z82 M82 h82 => ?_)
      obtain ⟨e82, h82⟩ := h82
      replace h82 : z82 = drT (sdF (mI M 44 21) (i + 1)) := by rw [h82, es]; rfl
      have hF2 : Fr [44] [] M M82 := by rw [e82]; exact hF.sI (by simp)
      have hs82 := hs.fr hF2
      have ek2 : ∀ k, k ≠ 21 → mI M82 44 k = mI M 44 k := fun k hk => by rw [e82, mI_sI, va_up_ne _ _ hk]; exact ek k hk
      have es2 : mI M82 44 21 = sdF (mI M 44 21) (i + 1) := by rw [e82, mI_sI, va_up_self, es]; rfl
      refine r_aload_n dX9_months_85 rfl ?_
      refine r_getR flX9_19_9 rfl (hs82.lt (by decide)) (hs82.T 44 rfl) (hs82.R 44 9 rfl) dX9_months_86 ?_
      refine r_iload dX9_months_89 rfl ?_
      refine r_ial (hs82.T 48 rfl) (hs82.lt (by decide)) (ix_nI hi8 (by decide)) dX9_months_91 ?_
      refine r_icmp_ge 102 dX9_months_92 (by decide) (fun c92 => ?_) (fun c92 => ?_)
      · skip
        rw [h82, hF2.2.1 48 (by decide), r5 i hi] at c92
        refine r_iconst (v := 0) dX9_months_102 (by decide) ?_
        refine r_ior dX9_months_103 ?_
        refine r_istore dX9_months_104 (by decide) rfl ?_
        refine r_iinc dX9_months_106 rfl rfl rfl ?_
        refine r_goto 68 dX9_months_109 (by decide) ?_
        exact r_lv (lvSc rfl (lvSc rfl (lvSc rfl (lvSc rfl (lvSc rfl (lvSc rfl (lvSc rfl (lvSc rfl lvS0)))))))) (ih (i + 1) _ _ M82 (by omega) (by omega) (nI_inc rfl) hF2 ek2 es2 (rw_0 hw (Int32.not_lt.mpr c92)))
      · skip
        rw [h82, hF2.2.1 48 (by decide), r5 i hi] at c92
        refine r_iconst (v := 1) dX9_months_95 (by decide) ?_
        refine r_iload dX9_months_96 rfl ?_
        refine r_ishl dX9_months_98 ?_
        refine r_goto 103 dX9_months_99 (by decide) ?_
        refine r_ior dX9_months_103 ?_
        refine r_istore dX9_months_104 (by decide) rfl ?_
        refine r_iinc dX9_months_106 rfl rfl rfl ?_
        refine r_goto 68 dX9_months_109 (by decide) ?_
        exact r_lv (lvSc rfl (lvSc rfl (lvSc rfl (lvSc rfl (lvSc rfl (lvSc rfl (lvSc rfl (lvSc rfl lvS0)))))))) (ih (i + 1) _ _ M82 (by omega) (by omega) (nI_inc rfl) hF2 ek2 es2 (rw_1 hi8 hw (Int32.not_le.mp c92)))
set_option maxHeartbeats 4000000 in
set_option maxRecDepth 100000 in
theorem bk_rmos (g : Gx) (x : Cx) (P : Int32 → Mm → Prop) (M : Mm) (σ : Ab) (δ : Dy) (C : RA σ δ M) (mm : Nat) (hmm : mm ≤ 60) (v0 u : Int32) (i : Nat) (M1 : Mm) (hF : Fr [44, 51, 52] [] M M1) (ek : ∀ k, k ≠ 21 → mI M1 44 k = mI M 44 k) (es : mI M1 44 21 = sdF (msF σ δ v0 i).1 (zN σ)) (D1 : RD M1 σ (yd δ) (msF σ δ v0 i).2.2.2 (msF σ δ v0 i).2.2.1) (wh v : Int32) (hw : ∀ t, t < zN σ → (bitI wh t = 1 ↔ drT (sdF (msF σ δ v0 i).1 (t + 1)) < yt δ t)) (K : ∀ (M2 : Mm) (ma v : Int32), Fr [44, 51, 52] [] M M2 → (∀ k, k ≠ 21 → mI M2 44 k = mI M 44 k) → mI M2 44 21 = (msF σ δ v0 (i + 1)).1 → ma = (msF σ δ v0 (i + 1)).2.1 → RD M2 σ (yd δ) (msF σ δ v0 (i + 1)).2.2.2 (msF σ δ v0 (i + 1)).2.2.1 → v = nI (i + 1) → Vj x g yX9_months cX9_months 8 (Option.some FieldType.int) rmX9_months (Qm x g rmX9_months.cells rmX9_months.slots (pI P)) 0 0 M2 56 [(0, some (.ref (g.1 + 44))), (1, some (.int (nI mm))), (2, some (.int v0)), (3, some (.int u)), (4, some (.int ma)), (5, some (.int v))] []) : Vj x g yX9_months cX9_months 8 (Option.some FieldType.int) rmX9_months (Qm x g rmX9_months.cells rmX9_months.slots (pI P)) 0 0 M1 112 [(0, some (.ref (g.1 + 44))), (1, some (.int (nI mm))), (2, some (.int v0)), (3, some (.int u)), (4, some (.int (msF σ δ v0 i).2.1)), (5, some (.int (nI i))), (6, some (.int wh)), (7, some (.int v))] [] := by
  obtain ⟨hs, w, dw, V, r1, r2, r3, r4, r5, r6, r7⟩ := id C
  have C1 : RA σ δ M1 := C.f44 hF (by simp) (fun k hk => ek k (by omega))
  have V1 := C1.2.2.2.1
  have hs1 := hs.fr hF
  refine r_aload_n dX9_months_112 rfl ?_
  refine r_iload dX9_months_113 rfl ?_
  refine r_aload_n dX9_months_115 rfl ?_
  refine r_getI flX9_94_9 rfl (hs1.lt (by decide)) (hs1.T 44 rfl) dX9_months_116 ?_
  refine r_cV2i cvX9_154 (kX9_pass g M1 hs1 σ w V1 (yq δ) (yd δ) (msF σ δ v0 i).2.2.2 (msF σ δ v0 i).2.2.1 D1 (ms_lo dw v0 i) wh (mI M1 44 8) (fun t ht => by rw [ek 8 (by decide)]; exact r4 t ht)) (hs1.lt (by decide)) (hs1.T 44 rfl) ⟨Nat.le_of_ble_eq_true rfl, Nat.le_of_ble_eq_true rfl⟩ (Nat.le_of_ble_eq_true rfl) ⟨Nat.le_of_ble_eq_true rfl, Nat.le_of_ble_eq_true rfl⟩ dX9_months_119 (fun z119 M119 h119 => ?_)
  obtain ⟨hF2, e2, D2⟩ := h119
  rw [passF_congr (cn := fun t => drT (sdF (msF σ δ v0 i).1 (t + 1)) < yt δ t) hw] at e2 D2
  have hs119 := hs1.fr hF2
  refine r_istore dX9_months_122 (by decide) rfl ?_
  refine r_iload dX9_months_124 rfl ?_
  refine r_iload dX9_months_126 rfl ?_
  refine r_iadd dX9_months_128 ?_
  refine r_istore dX9_months_129 (by decide) rfl ?_
  refine r_iinc dX9_months_131 rfl rfl rfl ?_
  refine r_goto 56 dX9_months_134 (by decide) ?_
  exact r_lv (lvSc rfl (lvSc rfl (lvSc rfl (lvSc rfl (lvSc rfl (lvSc rfl lvS0)))))) (K M119 _ _ (hF.tr (hF2.mono (by simp) (by simp))) (fun k hk => by rw [hF2.2.1 44 (by decide)]; exact ek k hk) (by rw [hF2.2.1 44 (by decide), es]; rfl) (by rw [e2]; rfl) D2 (nI_inc rfl))
theorem rbit0 {t : Nat} (h : t < 8) : bitI 0 t = 0 := by
  rcases (show t = 0 ∨ t = 1 ∨ t = 2 ∨ t = 3 ∨ t = 4 ∨ t = 5 ∨ t = 6 ∨ t = 7 by omega) with e | e | e | e | e | e | e | e <;> subst e <;> decide
theorem RD.f44 {M M' : Mm} {σ : Ab} {dg lo ps : Rw} (h : RD M σ dg lo ps) (f : Fr [44] [] M M') (e : mI M' 44 13 = mI M 44 13) : RD M' σ dg lo ps := by
  unfold RD
  rw [f.2.1 51 (by decide), f.2.1 52 (by decide), e]
  exact h
set_option maxHeartbeats 4000000 in
set_option maxRecDepth 100000 in
theorem lp_rmos (g : Gx) (x : Cx) (M : Mm) (σ : Ab) (δ : Dy) (C : RA σ δ M) (mm : Nat) (hmm : mm ≤ 60) (v0 u : Int32) : ∀ (n : Nat) (i : Nat) (v ma : Int32) (M1 : Mm), i ≤ mm → mm - i < n → v = nI i → Fr [44, 51, 52] [] M M1 → (∀ k, k ≠ 21 → mI M1 44 k = mI M 44 k) → mI M1 44 21 = (msF σ δ v0 i).1 → ma = (msF σ δ v0 i).2.1 → RD M1 σ (yd δ) (msF σ δ v0 i).2.2.2 (msF σ δ v0 i).2.2.1 → Vj x g yX9_months cX9_months 8 (Option.some FieldType.int) rmX9_months (Qm x g rmX9_months.cells rmX9_months.slots (pI fun r M' => Fr [44, 51, 52] [] M M' ∧ (r = if u = 0 then homF σ (msF σ δ v0 mm).2.2.1 else if u = 1 then (msF σ δ v0 mm).2.1 else (msF σ δ v0 mm).1) ∧ ∀ k, k ≠ 21 → mI M' 44 k = mI M 44 k)) 0 0 M1 56 [(0, some (.ref (g.1 + 44))), (1, some (.int (nI mm))), (2, some (.int v0)), (3, some (.int u)), (4, some (.int ma)), (5, some (.int v))] [] := by
  intro n
  induction n with
  | zero => intro i v ma M1 him hn hv hF ek es ema D1; omega
  | succ n ih =>
    intro i v ma M1 him hn hv hF ek es ema D1
    obtain ⟨hs, w, dw, V, r1, r2, r3, r4, r5, r6, r7⟩ := id C
    have C1 : RA σ δ M1 := C.f44 hF (by simp) (fun k hk => ek k (by omega))
    have hs1 := hs.fr hF
    subst hv
    have hv : nI i = nI i := rfl
    refine r_iload dX9_months_56 rfl ?_
    refine r_iload_n dX9_months_58 rfl ?_
    refine r_icmp_ge 137 dX9_months_59 (by decide) (fun c59 => ?_) (fun c59 => ?_)
    · skip
      have ez := lp_ge (n := mm) hv rfl c59 him (by omega)
      subst ez
      refine r_iconst (v := 0) dX9_months_137 (by decide) ?_
      refine r_istore dX9_months_138 (by decide) rfl ?_
      refine r_iconst (v := 0) dX9_months_140 (by decide) ?_
      refine r_istore dX9_months_141 (by decide) rfl ?_
      exact r_lv (lvSc rfl (lvSc rfl (lvSc rfl (lvSc rfl (lvSc rfl (lvSc rfl (lvSc rfl lvS0))))))) (lp_rmosH g x _ M1 σ δ C1 i hmm v0 u (msF σ δ v0 i).2.2.1 D1.1 ma (by rw [es, ema]; exact ⟨hF, rfl, ek⟩) (zS σ + 1) 0 0 0 (by omega) (by omega) rfl rfl)
    · skip
      have hi : i < mm := lp_lt (n := mm) hv rfl c59 him (by omega)
      refine r_iconst (v := 0) dX9_months_62 (by decide) ?_
      refine r_istore dX9_months_63 (by decide) rfl ?_
      refine r_iconst (v := 0) dX9_months_65 (by decide) ?_
      refine r_istore dX9_months_66 (by decide) rfl ?_
      exact r_lv (lvSc rfl (lvSc rfl (lvSc rfl (lvSc rfl (lvSc rfl (lvSc rfl (lvSc rfl (lvSc rfl lvS0)))))))) (lp_rmosD g x _ M1 σ δ C1 mm hmm v0 u _ _ (fun M2 wh v f1 f2 f3 f4 => by
        rw [es] at f3 f4
        rw [ema]
        exact bk_rmos g x _ M σ δ C mm hmm v0 u i M2 (hF.tr (f1.mono (by simp) (by simp))) (fun k hk => (f2 k hk).trans (ek k hk)) f3 (D1.f44 f1 (f2 13 (by decide))) wh v f4 (fun M3 ma v g1 g2 g3 g4 g5 g6 => ih (i + 1) v ma M3 (by omega) (by omega) g6 g1 g2 g3 g4 g5)) (zN σ + 1) 0 0 0 M1 (by omega) (by omega) rfl (Fr.rf _ _ _) (fun k _ => rfl) rfl (fun t ht => by rw [rbit0 ht]; constructor <;> intro q <;> first | exact absurd q (by decide) | omega))
set_option maxHeartbeats 4000000 in
set_option maxRecDepth 100000 in
theorem kX9_months (g : Gx) (M : Mm) (σ : Ab) (δ : Dy) (C : RA σ δ M) (m v0 u : Int32) : Ct g yX9_months cX9_months 8 (Option.some FieldType.int) rmX9_months [.ref (g.1 + 44), .int m, .int v0, .int u] M (pI fun r M' => Fr [44, 51, 52] [] M M' ∧ r = mosR σ δ m v0 u ∧ ∀ k, k ≠ 21 → mI M' 44 k = mI M 44 k) := by
  obtain ⟨hs, w, dw, V, r1, r2, r3, r4, r5, r6, r7⟩ := id C
  refine Ct.of rfl (Nat.le_of_ble_eq_true rfl) (fun x => ?_)
  refine r_iload_n dX9_months_0 rfl ?_
  refine r_i2l dX9_months_1 ?_
  refine r_lconst (v := 1) dX9_months_2 (by decide) ?_
  refine r_ldc2_w (v := 60) dX9_months_3 tw872 ?_
  refine r_cS3i csX9_70 (kX9_in g M m.toInt64 1 60) hs.pos ⟨Nat.le_of_ble_eq_true rfl, Nat.le_of_ble_eq_true rfl⟩ (Nat.le_of_ble_eq_true rfl) ⟨Nat.le_of_ble_eq_true rfl, Nat.le_of_ble_eq_true rfl⟩ dX9_months_6 (fun z6 M6 h6 => ?_)
  obtain ⟨e6, h6⟩ := h6
  replace e6 := e6.symm
  subst e6
  replace h6 := inI 1 60 h6
  refine r_if_eq 28 dX9_months_9 (by decide) (fun c9 => ?_) (fun c9 => ?_)
  · skip
    refine r_bipush (v := -102) dX9_months_28 (by decide) ?_
    exact r_iret dX9_months_30 ⟨_, rfl, Fr.rf _ _ _, by rw [mosR, if_neg (fun z => zero_of h6 c9 z.1)], fun _ _ => rfl⟩
  · skip
    refine r_iload_n dX9_months_12 rfl ?_
    refine r_if_lt 28 dX9_months_13 (by decide) (fun c13 => ?_) (fun c13 => ?_)
    · skip
      refine r_bipush (v := -102) dX9_months_28 (by decide) ?_
      exact r_iret dX9_months_30 ⟨_, rfl, Fr.rf _ _ _, by rw [mosR, if_neg (fun z => Int32.not_lt.mpr z.2.1 c13)], fun _ _ => rfl⟩
    · skip
      refine r_iload_n dX9_months_16 rfl ?_
      refine r_i2l dX9_months_17 ?_
      refine r_lconst (v := 0) dX9_months_18 (by decide) ?_
      refine r_ldc2_w (v := 2) dX9_months_19 tw878 ?_
      refine r_cS3i csX9_70 (kX9_in g M u.toInt64 0 2) hs.pos ⟨Nat.le_of_ble_eq_true rfl, Nat.le_of_ble_eq_true rfl⟩ (Nat.le_of_ble_eq_true rfl) ⟨Nat.le_of_ble_eq_true rfl, Nat.le_of_ble_eq_true rfl⟩ dX9_months_22 (fun z22 M22 h22 => ?_)
      obtain ⟨e22, h22⟩ := h22
      replace e22 := e22.symm
      subst e22
      replace h22 := inI 0 2 h22
      refine r_if_ne 31 dX9_months_25 (by decide) (fun c25 => ?_) (fun c25 => ?_)
      · skip
        refine r_aload_n dX9_months_31 rfl ?_
        refine r_cV0i cvX9_147 (kX9_lacks g M hs) (hs.lt (by decide)) (hs.T 44 rfl) ⟨Nat.le_of_ble_eq_true rfl, Nat.le_of_ble_eq_true rfl⟩ (Nat.le_of_ble_eq_true rfl) ⟨Nat.le_of_ble_eq_true rfl, Nat.le_of_ble_eq_true rfl⟩ dX9_months_32 (fun z32 M32 h32 => ?_)
        obtain ⟨e32, h32⟩ := h32
        replace e32 := e32.symm
        subst e32
        rw [V.1, ite_iff (nI_zero w.1)] at h32
        refine r_if_eq 41 dX9_months_35 (by decide) (fun c35 => ?_) (fun c35 => ?_)
        · skip
          refine r_aload_n dX9_months_41 rfl ?_
          refine r_cV0v cvX9_151 (kX9_begin g M σ δ C) (hs.lt (by decide)) (hs.T 44 rfl) ⟨Nat.le_of_ble_eq_true rfl, Nat.le_of_ble_eq_true rfl⟩ (Nat.le_of_ble_eq_true rfl) ⟨Nat.le_of_ble_eq_true rfl, Nat.le_of_ble_eq_true rfl⟩ dX9_months_42 (fun M42 h42 => ?_)
          obtain ⟨hF42, D42⟩ := h42
          have hs42 := hs.fr hF42
          have V42 := V.fr hF42 (by simp)
          have g42 : mI M42 44 = mI M 44 := hF42.2.1 44 (by decide)
          have q42 : ∀ t, t < zN σ → bitI (mI M42 44 8) t = yq δ t := fun t ht => by rw [g42]; exact r4 t ht
          refine r_aload_n dX9_months_45 rfl ?_
          refine r_iload_n dX9_months_46 rfl ?_
          refine r_putI fpX9_213_9 rfl (hs42.lt (by decide)) (hs42.T 44 rfl) rfl rfl dX9_months_47 ?_
          have hFS : Fr [44, 51, 52] [] M (sI M42 44 21 v0) := (hF42.mono (by simp) (by simp)).sI (by simp)
          have hsS := hs.fr hFS
          refine r_iconst (v := 0) dX9_months_50 (by decide) ?_
          refine r_istore dX9_months_51 (by decide) rfl ?_
          refine r_iconst (v := 0) dX9_months_53 (by decide) ?_
          refine r_istore dX9_months_54 (by decide) rfl ?_
          obtain ⟨mm, hmm, em⟩ := nI_rng (n := 60) (show 0 ≤ m by have := (one_of h6 c9).1; grind) (one_of h6 c9).2 (by decide)
          have ea : mosR σ δ m v0 u = (if u = 0 then homF σ (msF σ δ v0 mm).2.2.1 else if u = 1 then (msF σ δ v0 mm).2.1 else (msF σ δ v0 mm).1) := by rw [mosR, if_pos ⟨one_of h6 c9, Int32.not_lt.mp c13, one_of h22 c25⟩, if_neg (zero_of h32 c35), em, nI_clamp (by omega)]
          rw [ea]
          clear h6 ea
          subst em
          exact r_lv (lvSc rfl (lvSc rfl (lvSc rfl (lvSc rfl (lvSc rfl (lvSc rfl lvS0)))))) (lp_rmos g x M σ δ C mm hmm v0 u (mm + 1) 0 0 0 _ (by omega) (by omega) rfl hFS (fun k hk => by rw [mI_sI, va_up_ne _ _ hk, g42]) (by rw [mI_sI, va_up_self]; rfl) rfl (D42.f44 ((Fr.rf _ _ _).sI (by simp)) (by rw [mI_sI, va_up_ne _ _ (by decide)])))
        · skip
          refine r_bipush (v := -103) dX9_months_38 (by decide) ?_
          exact r_iret dX9_months_40 ⟨_, rfl, Fr.rf _ _ _, by rw [mosR, if_pos ⟨one_of h6 c9, Int32.not_lt.mp c13, one_of h22 c25⟩, if_pos (one_of h32 c35)], fun _ _ => rfl⟩
      · skip
        refine r_bipush (v := -102) dX9_months_28 (by decide) ?_
        exact r_iret dX9_months_30 ⟨_, rfl, Fr.rf _ _ _, by rw [mosR, if_neg (fun z => zero_of h22 c25 z.2.2)], fun _ _ => rfl⟩
