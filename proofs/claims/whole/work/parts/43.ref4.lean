theorem bitB (x : Int32) {u : Nat} (h : u < 8) : bitI x u = if x.toBitVec.getLsbD u = true then 1 else 0 := by
  have e : ((nI u &&& 31).toBitVec.smod 32).toNat = u := by
    rcases (show u = 0 ∨ u = 1 ∨ u = 2 ∨ u = 3 ∨ u = 4 ∨ u = 5 ∨ u = 6 ∨ u = 7 by omega) with e | e | e | e | e | e | e | e <;> subst e <;> decide
  have k : (bitI x u).toBitVec.getLsbD 0 = x.toBitVec.getLsbD u := by
    unfold bitI
    rw [Int32.toBitVec_and, Int32.toBitVec_shiftRight, BitVec.getLsbD_and, BitVec.getLsbD_sshiftRight', e]
    have h3 : u < 32 := by omega
    simp [h3]
  rcases bit01 x u with q | q
  · rw [q] at k ⊢
    rw [if_neg (by rw [← k]; decide)]
  · rw [q] at k ⊢
    rw [if_pos (by rw [← k]; decide)]
theorem bitsh : ∀ t, t < 8 → ∀ u, u < 8 → ((1 : Int32) <<< (nI t &&& 31)).toBitVec.getLsbD u = decide (u = t) := by decide +kernel
theorem bitsn : ∀ t, t < 8 → ∀ u, u < 8 → (((1 : Int32) <<< (nI t &&& 31)) ^^^ -1).toBitVec.getLsbD u = decide (u ≠ t) := by decide +kernel
theorem bit_set (x : Int32) {t u : Nat} (ht : t < 8) (hu : u < 8) : bitI (x ||| (1 : Int32) <<< (nI t &&& 31)) u = if u = t then 1 else bitI x u := by
  rw [bitB _ hu, bitB _ hu, Int32.toBitVec_or, BitVec.getLsbD_or, bitsh t ht u hu]
  by_cases e : u = t <;> simp [e]
theorem bit_clr (x : Int32) {t u : Nat} (ht : t < 8) (hu : u < 8) : bitI (x &&& (((1 : Int32) <<< (nI t &&& 31)) ^^^ -1)) u = if u = t then 0 else bitI x u := by
  rw [bitB _ hu, bitB _ hu, Int32.toBitVec_and, BitVec.getLsbD_and, bitsn t ht u hu]
  by_cases e : u = t <;> simp [e]
/-! S -/
theorem RA.stE {σ : Ab} {δ : Dy} {M : Mm} (h : RA σ δ M) {j : Nat} (hj : j < zS σ) {b : Int32} : RA σ (dyE δ (va_up (ye δ) j b)) (sI M 50 (4 * j + 3) b) := by
  obtain ⟨h1, h2, h3, V, r1, r2, r3, r4, r5, r6, r7⟩ := h
  refine ⟨h1, h2, h3, ⟨V.1, V.2.1, V.2.2.1, fun s hs => ?_⟩, fun s hs => ?_, r2, r3, r4, r5, r6, r7⟩
  · rw [mI_sI, va_up_ne _ _ (by omega), va_up_ne _ _ (by omega)]; exact V.2.2.2 s hs
  · show _ ∧ _ = va_up (ye δ) j b s
    rw [mI_sI, va_up_ne _ _ (by omega), va_up_if, va_up_if]
    refine ⟨(r1 s hs).1, ?_⟩
    by_cases e : s = j
    · rw [if_pos e, if_pos (by omega)]
    · rw [if_neg e, if_neg (by omega)]; exact (r1 s hs).2
theorem RA.stL {σ : Ab} {δ : Dy} {M : Mm} (h : RA σ δ M) {j : Nat} {b : Int32} (hb : 0 ≤ b) : RA σ (dyL δ (va_up (yl δ) j b)) (sI M 49 j b) := by
  obtain ⟨h1, h2, ⟨d1, d2, d3, d4⟩, V, r1, r2, r3, r4, r5, r6, r7⟩ := h
  refine ⟨h1, h2, ⟨fun t ht => ?_, d2, d3, d4⟩, V, r1, fun s hs => ?_, r3, r4, r5, r6, r7⟩
  · show 0 ≤ va_up (yl δ) j b t
    rw [va_up_if]; split
    · exact hb
    · exact d1 t ht
  · show _ = va_up (yl δ) j b s
    rw [mI_sI, va_up_if, va_up_if]; split
    · rfl
    · exact r2 s hs
theorem RA.stT {σ : Ab} {δ : Dy} {M : Mm} (h : RA σ δ M) {j : Nat} {b : Int32} : RA σ (dyT δ (va_up (yt δ) j b)) (sI M 48 j b) := by
  obtain ⟨h1, h2, h3, V, r1, r2, r3, r4, r5, r6, r7⟩ := h
  refine ⟨h1, h2, h3, V, r1, r2, r3, r4, fun s hs => ?_, r6, r7⟩
  show _ = va_up (yt δ) j b s
  rw [mI_sI, va_up_if, va_up_if]; split
  · rfl
  · exact r5 s hs
theorem RA.stD {σ : Ab} {δ : Dy} {M : Mm} (h : RA σ δ M) {j : Nat} {b v : Int32} (hb : b01 b) (hx : ∀ k, k < 8 → bitI v k = if k = j then b else bitI (mI M 44 13) k) : RA σ (dyD δ (va_up (yd δ) j b)) (sI M 44 13 v) := by
  obtain ⟨h1, h2, ⟨d1, d2, d3, d4⟩, V, r1, r2, r3, r4, r5, r6, r7⟩ := h
  refine ⟨h1, h2, ⟨d1, d2, fun t ht => ?_, d4⟩, V, r1, r2, fun s hs => ?_, r4, r5, r6, r7⟩
  · show b01 (va_up (yd δ) j b t)
    rw [va_up_if]; split
    · exact hb
    · exact d3 t ht
  · show bitI (mI (sI M 44 13 v) 44 13) s = va_up (yd δ) j b s
    rw [mI_sI, va_up_self, va_up_if, hx s hs]; split
    · rfl
    · exact r3 s hs
theorem RA.stQ {σ : Ab} {δ : Dy} {M : Mm} (h : RA σ δ M) {j : Nat} {b v : Int32} (hb : b01 b) (hx : ∀ k, k < 8 → bitI v k = if k = j then b else bitI (mI M 44 8) k) : RA σ (dyQ δ (va_up (yq δ) j b)) (sI M 44 8 v) := by
  obtain ⟨h1, h2, ⟨d1, d2, d3, d4⟩, V, r1, r2, r3, r4, r5, r6, r7⟩ := h
  refine ⟨h1, h2, ⟨d1, d2, d3, fun t ht => ?_⟩, V, r1, r2, r3, fun s hs => ?_, r5, r6, r7⟩
  · show b01 (va_up (yq δ) j b t)
    rw [va_up_if]; split
    · exact hb
    · exact d4 t ht
  · show bitI (mI (sI M 44 8 v) 44 8) s = va_up (yq δ) j b s
    rw [mI_sI, va_up_self, va_up_if, hx s (by have := h2.1; omega)]; split
    · rfl
    · exact r4 s hs
def tellR (σ : Ab) (δ : Dy) (j : Nat) (w : Int32) : Int32 := if w = 0 then nI (zk σ j) else if w = 1 then zp σ j else if w = 2 then zr σ j else if w = 3 then zf σ j else if w = 4 then yq δ j else if w = 5 then yt δ j else -102
theorem aboutR_t {σ : Ab} {δ : Dy} {t w : Int32} (h : 0 ≤ t ∧ t < nI (zN σ)) : aboutR σ δ t w = tellR σ δ t.toNatClampNeg w := by rw [aboutR, if_pos h]; rfl
theorem tell_r {σ : Ab} {δ : Dy} {M : Mm} (V : RV1 σ M) {j c : Nat} (hj : j < zN σ) (hc : c ≤ 3) : mI M 47 (4 * j + c) = tellR σ δ j (nI c) := by
  obtain ⟨a, b, d, e⟩ := V.2.2.1 j hj
  rcases (show c = 0 ∨ c = 1 ∨ c = 2 ∨ c = 3 by omega) with q | q | q | q <;> subst q
  · exact a
  · exact b
  · exact d
  · exact e
def sivR (σ : Ab) (δ : Dy) (j : Nat) (w : Int32) : Int32 := if w = 0 then zw σ j else if w = 1 then zo σ j else if w = 2 then yp δ j else if w = 3 then ye δ j else -102
theorem silR_t {σ : Ab} {δ : Dy} {t w : Int32} (h : 0 ≤ t ∧ t < nI (zS σ)) : silR σ δ t w = sivR σ δ t.toNatClampNeg w := by rw [silR, if_pos h]; rfl
theorem siv_r {σ : Ab} {δ : Dy} {M : Mm} (C : RA σ δ M) {j c : Nat} (hj : j < zS σ) (hc : c ≤ 3) : mI M 50 (4 * j + c) = sivR σ δ j (nI c) := by
  obtain ⟨a, b⟩ := C.2.2.2.1.2.2.2 j hj
  obtain ⟨d, e⟩ := C.2.2.2.2.1 j hj
  rcases (show c = 0 ∨ c = 1 ∨ c = 2 ∨ c = 3 by omega) with q | q | q | q <;> subst q
  · exact a
  · exact b
  · exact d
  · exact e
theorem no03 {w : Int32} (h : ¬ (0 ≤ w ∧ w ≤ 3)) : ¬ w = 0 ∧ ¬ w = 1 ∧ ¬ w = 2 ∧ ¬ w = 3 := ⟨fun e => h (by rw [e]; decide), fun e => h (by rw [e]; decide), fun e => h (by rw [e]; decide), fun e => h (by rw [e]; decide)⟩
def rmX9_tell : Room := { frames := 1, cells := 0, slots := 0, locals := 25 }
set_option maxHeartbeats 4000000 in
set_option maxRecDepth 100000 in
theorem kX9_tell (g : Gx) (M : Mm) (σ : Ab) (δ : Dy) (C : RA σ δ M) (j : Nat) (hj : j < zN σ) (v : Int32) : Ct g yX9_tell cX9_tell 3 (Option.some FieldType.int) rmX9_tell [.ref (g.1 + 44), .int (nI j), .int v] M (pI fun r M' => M' = M ∧ r = tellR σ δ j v) := by
  obtain ⟨hs, w, dw, V, r1, r2, r3, r4, r5, r6, r7⟩ := id C
  have hj8 : j < 8 := Nat.lt_of_lt_of_le hj w.1
  refine Ct.of rfl (Nat.le_of_ble_eq_true rfl) (fun x => ?_)
  refine r_iload_n dX9_tell_0 rfl ?_
  refine r_i2l dX9_tell_1 ?_
  refine r_lconst (v := 0) dX9_tell_2 (by decide) ?_
  refine r_ldc2_w (v := 3) dX9_tell_3 tw785 ?_
  refine r_cS3i csX9_70 (kX9_in g M v.toInt64 0 3) hs.pos ⟨Nat.le_of_ble_eq_true rfl, Nat.le_of_ble_eq_true rfl⟩ (Nat.le_of_ble_eq_true rfl) ⟨Nat.le_of_ble_eq_true rfl, Nat.le_of_ble_eq_true rfl⟩ dX9_tell_6 (fun z6 M6 h6 => ?_)
  obtain ⟨e6, h6⟩ := h6
  replace e6 := e6.symm
  subst e6
  replace h6 := inI 0 3 h6
  refine r_if_eq 25 dX9_tell_9 (by decide) (fun c9 => ?_) (fun c9 => ?_)
  · skip
    obtain ⟨n0, n1, n2, n3⟩ := no03 (zero_of h6 c9)
    refine r_iload_n dX9_tell_25 rfl ?_
    refine r_iconst (v := 4) dX9_tell_26 (by decide) ?_
    refine r_icmp_ne 41 dX9_tell_27 (by decide) (fun c27 => ?_) (fun c27 => ?_)
    · skip
      refine r_iload_n dX9_tell_41 rfl ?_
      refine r_iconst (v := 5) dX9_tell_42 (by decide) ?_
      refine r_icmp_ne 55 dX9_tell_43 (by decide) (fun c43 => ?_) (fun c43 => ?_)
      · skip
        refine r_bipush (v := -102) dX9_tell_55 (by decide) ?_
        exact r_iret dX9_tell_57 ⟨_, rfl, rfl, by rw [tellR, if_neg n0, if_neg n1, if_neg n2, if_neg n3, if_neg c27, if_neg c43]⟩
      · skip
        refine r_aload_n dX9_tell_46 rfl ?_
        refine r_getR flX9_19_9 rfl (hs.lt (by decide)) (hs.T 44 rfl) (hs.R 44 9 rfl) dX9_tell_47 ?_
        refine r_iload_n dX9_tell_50 rfl ?_
        refine r_ial (hs.T 48 rfl) (hs.lt (by decide)) (ix_nI (by have := w.1; omega) (by decide)) dX9_tell_51 ?_
        refine r_goto 57 dX9_tell_52 (by decide) ?_
        exact r_iret dX9_tell_57 ⟨_, rfl, rfl, by rw [tellR, if_neg n0, if_neg n1, if_neg n2, if_neg n3, if_neg c27, if_pos c43]; exact r5 j hj⟩
    · skip
      refine r_aload_n dX9_tell_30 rfl ?_
      refine r_getI flX9_94_9 rfl (hs.lt (by decide)) (hs.T 44 rfl) dX9_tell_31 ?_
      refine r_iload_n dX9_tell_34 rfl ?_
      refine r_ishr dX9_tell_35 ?_
      refine r_iconst (v := 1) dX9_tell_36 (by decide) ?_
      refine r_iand dX9_tell_37 ?_
      refine r_goto 57 dX9_tell_38 (by decide) ?_
      exact r_iret dX9_tell_57 ⟨_, rfl, rfl, by rw [tellR, if_neg n0, if_neg n1, if_neg n2, if_neg n3, if_pos c27]; exact r4 j hj⟩
  · skip
    obtain ⟨c, hc, ec⟩ := nI_rng (v := v) (n := 3) (one_of h6 c9).1 (one_of h6 c9).2 (by decide)
    subst ec
    refine r_aload_n dX9_tell_12 rfl ?_
    refine r_getR flX9_16_9 rfl (hs.lt (by decide)) (hs.T 44 rfl) (hs.R 44 7 rfl) dX9_tell_13 ?_
    refine r_iconst (v := 4) dX9_tell_16 (by decide) ?_
    refine r_iload_n dX9_tell_17 rfl ?_
    refine r_imul dX9_tell_18 ?_
    refine r_iload_n dX9_tell_19 rfl ?_
    refine r_iadd dX9_tell_20 ?_
    refine r_ial (hs.T 47 rfl) (hs.lt (by decide)) (ix4 (by omega) (by decide)) dX9_tell_21 ?_
    refine r_goto 57 dX9_tell_22 (by decide) ?_
    exact r_iret dX9_tell_57 ⟨_, rfl, rfl, tell_r V hj hc⟩
def rmX9_about : Room := { frames := 2, cells := 0, slots := 0, locals := 47 }
set_option maxHeartbeats 4000000 in
set_option maxRecDepth 100000 in
theorem kX9_about (g : Gx) (M : Mm) (σ : Ab) (δ : Dy) (C : RA σ δ M) (t v : Int32) : Ct g yX9_about cX9_about 3 (Option.some FieldType.int) rmX9_about [.ref (g.1 + 44), .int t, .int v] M (pI fun r M' => M' = M ∧ r = aboutR σ δ t v) := by
  obtain ⟨hs, w, dw, V, r1, r2, r3, r4, r5, r6, r7⟩ := id C
  refine Ct.of rfl (Nat.le_of_ble_eq_true rfl) (fun x => ?_)
  refine r_aload_n dX9_about_0 rfl ?_
  refine r_iload_n dX9_about_1 rfl ?_
  refine r_cV1i cvX9_102 (kX9_isThief g M hs (zN σ) w.1 V.1 t) (hs.lt (by decide)) (hs.T 44 rfl) ⟨Nat.le_of_ble_eq_true rfl, Nat.le_of_ble_eq_true rfl⟩ (Nat.le_of_ble_eq_true rfl) ⟨Nat.le_of_ble_eq_true rfl, Nat.le_of_ble_eq_true rfl⟩ dX9_about_2 (fun z2 M2 h2 => ?_)
  obtain ⟨e2, h2⟩ := h2
  replace e2 := e2.symm
  subst e2
  refine r_if_eq 17 dX9_about_5 (by decide) (fun c5 => ?_) (fun c5 => ?_)
  · skip
    refine r_bipush (v := -101) dX9_about_17 (by decide) ?_
    exact r_iret dX9_about_19 ⟨_, rfl, rfl, by rw [aboutR, if_neg (zero_of h2 c5)]⟩
  · skip
    obtain ⟨j, hj, ej⟩ := ix_ex (by have := w.1; omega) (one_of h2 c5).1 (one_of h2 c5).2
    have hj8 : j < 8 := Nat.lt_of_lt_of_le hj w.1
    have hcl : t.toNatClampNeg = j := by rw [ej]; exact nI_clamp (by omega)
    refine r_aload_n dX9_about_8 rfl ?_
    refine r_iload_n dX9_about_9 rfl ?_
    refine r_iload_n dX9_about_10 rfl ?_
    refine r_cV2i cvX9_105 ((show Ct _ _ _ _ _ _ [.ref (g.1 + 44), .int t, .int v] _ _ from by rw [ej]; exact kX9_tell g M σ δ C j hj v)) (hs.lt (by decide)) (hs.T 44 rfl) ⟨Nat.le_of_ble_eq_true rfl, Nat.le_of_ble_eq_true rfl⟩ (Nat.le_of_ble_eq_true rfl) ⟨Nat.le_of_ble_eq_true rfl, Nat.le_of_ble_eq_true rfl⟩ dX9_about_11 (fun z11 M11 h11 => ?_)
    obtain ⟨e11, h11⟩ := h11
    replace e11 := e11.symm
    subst e11
    refine r_goto 19 dX9_about_14 (by decide) ?_
    exact r_iret dX9_about_19 ⟨_, rfl, rfl, by rw [aboutR_t (one_of h2 c5), hcl]; exact h11⟩
theorem as_1 {t k : Int32} {j : Nat} (h : k = 0 ∨ k = nI j ∨ (k = 1 ∧ j = 4)) : t = if k = 0 ∨ k = nI j ∨ (k = 1 ∧ j = 4) then t else -1 := by rw [if_pos h]
def rmX9_as : Room := { frames := 2, cells := 0, slots := 0, locals := 46 }
set_option maxHeartbeats 4000000 in
set_option maxRecDepth 100000 in
theorem kX9_as (g : Gx) (M : Mm) (σ : Ab) (δ : Dy) (C : RA σ δ M) (t k : Int32) : Ct g yX9_as cX9_as 5 (Option.some FieldType.int) rmX9_as [.ref (g.1 + 44), .int t, .int k] M (pI fun r M' => M' = M ∧ r = asR σ t k) := by
  obtain ⟨hs, w, dw, V, r1, r2, r3, r4, r5, r6, r7⟩ := id C
  refine Ct.of rfl (Nat.le_of_ble_eq_true rfl) (fun x => ?_)
  refine r_aload_n dX9_as_0 rfl ?_
  refine r_iload_n dX9_as_1 rfl ?_
  refine r_cV1i cvX9_102 (kX9_isThief g M hs (zN σ) w.1 V.1 t) (hs.lt (by decide)) (hs.T 44 rfl) ⟨Nat.le_of_ble_eq_true rfl, Nat.le_of_ble_eq_true rfl⟩ (Nat.le_of_ble_eq_true rfl) ⟨Nat.le_of_ble_eq_true rfl, Nat.le_of_ble_eq_true rfl⟩ dX9_as_2 (fun z2 M2 h2 => ?_)
  obtain ⟨e2, h2⟩ := h2
  replace e2 := e2.symm
  subst e2
  refine r_if_ne 11 dX9_as_5 (by decide) (fun c5 => ?_) (fun c5 => ?_)
  · skip
    obtain ⟨j, hj, ej⟩ := ix_ex (by have := w.1; omega) (one_of h2 c5).1 (one_of h2 c5).2
    have hj8 : j < 8 := Nat.lt_of_lt_of_le hj w.1
    have hcl : t.toNatClampNeg = j := by rw [ej]; exact nI_clamp (by omega)
    have ek : mI M 47 (4 * j) = nI (zk σ j) := (V.2.2.1 j hj).1
    have hk5 := (w.2.2.1 j hj).1
    refine r_iload_n dX9_as_11 rfl ?_
    refine r_i2l dX9_as_12 ?_
    refine r_lconst (v := 0) dX9_as_13 (by decide) ?_
    refine r_ldc2_w (v := 4) dX9_as_14 tw790 ?_
    refine r_cS3i csX9_70 (kX9_in g M k.toInt64 0 4) hs.pos ⟨Nat.le_of_ble_eq_true rfl, Nat.le_of_ble_eq_true rfl⟩ (Nat.le_of_ble_eq_true rfl) ⟨Nat.le_of_ble_eq_true rfl, Nat.le_of_ble_eq_true rfl⟩ dX9_as_17 (fun z17 M17 h17 => ?_)
    obtain ⟨e17, h17⟩ := h17
    replace e17 := e17.symm
    subst e17
    replace h17 := inI 0 4 h17
    refine r_if_ne 26 dX9_as_20 (by decide) (fun c20 => ?_) (fun c20 => ?_)
    · skip
      refine r_aload_n dX9_as_26 rfl ?_
      refine r_getR flX9_16_9 rfl (hs.lt (by decide)) (hs.T 44 rfl) (hs.R 44 7 rfl) dX9_as_27 ?_
      refine r_iconst (v := 4) dX9_as_30 (by decide) ?_
      refine r_iload_n dX9_as_31 rfl ?_
      refine r_imul dX9_as_32 ?_
      refine r_ial (hs.T 47 rfl) (hs.lt (by decide)) (ix_of (by rw [ej]; exact nI_40 j) (by omega) (by decide)) dX9_as_33 ?_
      refine r_istore_n dX9_as_34 (by decide) rfl ?_
      rw [ek]
      refine r_dia (P := fun u => (u = 1 ∧ (k = 0 ∨ k = nI (zk σ j) ∨ (k = 1 ∧ zk σ j = 4))) ∨ (u = 0 ∧ ¬ (k = 0 ∨ k = nI (zk σ j) ∨ (k = 1 ∧ zk σ j = 4)))) 59 (fun u hu => ?_) (fun hJ59 => ?_)
      · skip
        refine r_istore dX9_as_59 (by decide) rfl ?_
        refine r_iload dX9_as_61 rfl ?_
        refine r_if_eq 70 dX9_as_63 (by decide) (fun c63 => ?_) (fun c63 => ?_)
        · skip
          refine r_iconst (v := -1) dX9_as_70 (by decide) ?_
          exact r_iret dX9_as_71 ⟨_, rfl, rfl, by rw [asR, if_pos (one_of h2 c5), if_pos (one_of h17 c20), hcl, if_neg (hu.resolve_left (fun q => absurd (q.1.symm.trans c63) (by decide))).2]⟩
        · skip
          refine r_iload_n dX9_as_66 rfl ?_
          refine r_goto 71 dX9_as_67 (by decide) ?_
          exact r_iret dX9_as_71 ⟨_, rfl, rfl, by rw [asR, if_pos (one_of h2 c5), if_pos (one_of h17 c20), hcl, if_pos (hu.resolve_right (fun q => c63 q.1)).2]⟩
      · skip
        refine r_iload_n dX9_as_35 rfl ?_
        refine r_if_eq 54 dX9_as_36 (by decide) (fun c36 => ?_) (fun c36 => ?_)
        · skip
          have hfin : ((1 : Int32) = 1 ∧ (k = 0 ∨ k = nI (zk σ j) ∨ (k = 1 ∧ zk σ j = 4))) ∨ ((1 : Int32) = 0 ∧ ¬ (k = 0 ∨ k = nI (zk σ j) ∨ (k = 1 ∧ zk σ j = 4))) := Or.inl ⟨rfl, Or.inl c36⟩
          refine r_iconst (v := 1) dX9_as_54 (by decide) ?_
          refine r_goto 59 dX9_as_55 (by decide) ?_
          exact hJ59 _ hfin
        · skip
          refine r_iload_n dX9_as_39 rfl ?_
          refine r_iload_n dX9_as_40 rfl ?_
          refine r_icmp_eq 54 dX9_as_41 (by decide) (fun c41 => ?_) (fun c41 => ?_)
          · skip
            have hfin : ((1 : Int32) = 1 ∧ (k = 0 ∨ k = nI (zk σ j) ∨ (k = 1 ∧ zk σ j = 4))) ∨ ((1 : Int32) = 0 ∧ ¬ (k = 0 ∨ k = nI (zk σ j) ∨ (k = 1 ∧ zk σ j = 4))) := Or.inl ⟨rfl, Or.inr (Or.inl c41)⟩
            refine r_iconst (v := 1) dX9_as_54 (by decide) ?_
            refine r_goto 59 dX9_as_55 (by decide) ?_
            exact hJ59 _ hfin
          · skip
            refine r_iload_n dX9_as_44 rfl ?_
            refine r_iconst (v := 1) dX9_as_45 (by decide) ?_
            refine r_icmp_ne 58 dX9_as_46 (by decide) (fun c46 => ?_) (fun c46 => ?_)
            · skip
              have hfin : ((0 : Int32) = 1 ∧ (k = 0 ∨ k = nI (zk σ j) ∨ (k = 1 ∧ zk σ j = 4))) ∨ ((0 : Int32) = 0 ∧ ¬ (k = 0 ∨ k = nI (zk σ j) ∨ (k = 1 ∧ zk σ j = 4))) := Or.inr ⟨rfl, fun q => q.elim c36 (fun q => q.elim c41 (fun q => c46 q.1))⟩
              refine r_iconst (v := 0) dX9_as_58 (by decide) ?_
              exact hJ59 _ hfin
            · skip
              refine r_iload_n dX9_as_49 rfl ?_
              refine r_iconst (v := 4) dX9_as_50 (by decide) ?_
              refine r_icmp_ne 58 dX9_as_51 (by decide) (fun c51 => ?_) (fun c51 => ?_)
              · skip
                have hfin : ((0 : Int32) = 1 ∧ (k = 0 ∨ k = nI (zk σ j) ∨ (k = 1 ∧ zk σ j = 4))) ∨ ((0 : Int32) = 0 ∧ ¬ (k = 0 ∨ k = nI (zk σ j) ∨ (k = 1 ∧ zk σ j = 4))) := Or.inr ⟨rfl, fun q => q.elim c36 (fun q => q.elim c41 (fun q => c51 (by rw [q.2]; rfl)))⟩
                refine r_iconst (v := 0) dX9_as_58 (by decide) ?_
                exact hJ59 _ hfin
              · skip
                have hfin : ((1 : Int32) = 1 ∧ (k = 0 ∨ k = nI (zk σ j) ∨ (k = 1 ∧ zk σ j = 4))) ∨ ((1 : Int32) = 0 ∧ ¬ (k = 0 ∨ k = nI (zk σ j) ∨ (k = 1 ∧ zk σ j = 4))) := Or.inl ⟨rfl, Or.inr (Or.inr ⟨c46, (eqk (c := 4) hk5 (by decide) rfl).mp c51⟩)⟩
                refine r_iconst (v := 1) dX9_as_54 (by decide) ?_
                refine r_goto 59 dX9_as_55 (by decide) ?_
                exact hJ59 _ hfin
    · skip
      refine r_bipush (v := -102) dX9_as_23 (by decide) ?_
      exact r_iret dX9_as_25 ⟨_, rfl, rfl, by rw [asR, if_pos (one_of h2 c5), if_neg (zero_of h17 c20)]⟩
  · skip
    refine r_bipush (v := -101) dX9_as_8 (by decide) ?_
    exact r_iret dX9_as_10 ⟨_, rfl, rfl, by rw [asR, if_neg (zero_of h2 c5)]⟩
def rmX9_silver : Room := { frames := 2, cells := 0, slots := 0, locals := 46 }
set_option maxHeartbeats 4000000 in
set_option maxRecDepth 100000 in
theorem kX9_silver (g : Gx) (M : Mm) (σ : Ab) (δ : Dy) (C : RA σ δ M) (t v : Int32) : Ct g yX9_silver cX9_silver 3 (Option.some FieldType.int) rmX9_silver [.ref (g.1 + 44), .int t, .int v] M (pI fun r M' => M' = M ∧ r = silR σ δ t v) := by
  obtain ⟨hs, w, dw, V, r1, r2, r3, r4, r5, r6, r7⟩ := id C
  refine Ct.of rfl (Nat.le_of_ble_eq_true rfl) (fun x => ?_)
  refine r_aload_n dX9_silver_0 rfl ?_
  refine r_iload_n dX9_silver_1 rfl ?_
  refine r_cV1i cvX9_124 (kX9_isSpoon g M hs (zS σ) w.2.1 V.2.1 t) (hs.lt (by decide)) (hs.T 44 rfl) ⟨Nat.le_of_ble_eq_true rfl, Nat.le_of_ble_eq_true rfl⟩ (Nat.le_of_ble_eq_true rfl) ⟨Nat.le_of_ble_eq_true rfl, Nat.le_of_ble_eq_true rfl⟩ dX9_silver_2 (fun z2 M2 h2 => ?_)
  obtain ⟨e2, h2⟩ := h2
  replace e2 := e2.symm
  subst e2
  refine r_if_ne 11 dX9_silver_5 (by decide) (fun c5 => ?_) (fun c5 => ?_)
  · skip
    obtain ⟨j, hj, ej⟩ := ix_ex (by have := w.2.1; omega) (one_of h2 c5).1 (one_of h2 c5).2
    have hj8 : j < 8 := Nat.lt_of_lt_of_le hj w.2.1
    have hcl : t.toNatClampNeg = j := by rw [ej]; exact nI_clamp (by omega)
    refine r_iload_n dX9_silver_11 rfl ?_
    refine r_i2l dX9_silver_12 ?_
    refine r_lconst (v := 0) dX9_silver_13 (by decide) ?_
    refine r_ldc2_w (v := 3) dX9_silver_14 tw785 ?_
    refine r_cS3i csX9_70 (kX9_in g M v.toInt64 0 3) hs.pos ⟨Nat.le_of_ble_eq_true rfl, Nat.le_of_ble_eq_true rfl⟩ (Nat.le_of_ble_eq_true rfl) ⟨Nat.le_of_ble_eq_true rfl, Nat.le_of_ble_eq_true rfl⟩ dX9_silver_17 (fun z17 M17 h17 => ?_)
    obtain ⟨e17, h17⟩ := h17
    replace e17 := e17.symm
    subst e17
    replace h17 := inI 0 3 h17
    refine r_if_eq 36 dX9_silver_20 (by decide) (fun c20 => ?_) (fun c20 => ?_)
    · skip
      obtain ⟨n0, n1, n2, n3⟩ := no03 (zero_of h17 c20)
      refine r_bipush (v := -102) dX9_silver_36 (by decide) ?_
      exact r_iret dX9_silver_38 ⟨_, rfl, rfl, by rw [silR_t (one_of h2 c5), sivR, if_neg n0, if_neg n1, if_neg n2, if_neg n3]⟩
    · skip
      obtain ⟨c, hc, ec⟩ := nI_rng (v := v) (n := 3) (one_of h17 c20).1 (one_of h17 c20).2 (by decide)
      refine r_aload_n dX9_silver_23 rfl ?_
      refine r_getR flX9_25_9 rfl (hs.lt (by decide)) (hs.T 44 rfl) (hs.R 44 15 rfl) dX9_silver_24 ?_
      refine r_iconst (v := 4) dX9_silver_27 (by decide) ?_
      refine r_iload_n dX9_silver_28 rfl ?_
      refine r_imul dX9_silver_29 ?_
      refine r_iload_n dX9_silver_30 rfl ?_
      refine r_iadd dX9_silver_31 ?_
      refine r_ial (hs.T 50 rfl) (hs.lt (by decide)) (ix_of (by rw [ej, ec]; exact nI_4 j c) (by omega) (by decide)) dX9_silver_32 ?_
      refine r_goto 38 dX9_silver_33 (by decide) ?_
      exact r_iret dX9_silver_38 ⟨_, rfl, rfl, by rw [silR_t (one_of h2 c5), hcl, ec]; exact siv_r C hj hc⟩
  · skip
    refine r_bipush (v := -101) dX9_silver_8 (by decide) ?_
    exact r_iret dX9_silver_10 ⟨_, rfl, rfl, by rw [silR, if_neg (zero_of h2 c5)]⟩
def rmX9_seen : Room := { frames := 2, cells := 0, slots := 0, locals := 46 }
set_option maxHeartbeats 4000000 in
set_option maxRecDepth 100000 in
theorem kX9_seen (g : Gx) (M : Mm) (σ : Ab) (δ : Dy) (C : RA σ δ M) (s h : Int32) : Ct g yX9_seen cX9_seen 4 (Option.some FieldType.int) rmX9_seen [.ref (g.1 + 44), .int s, .int h] M (pI fun r M' => Fr [50] [] M M' ∧ r = seeR σ δ s h ∧ RA σ (seeD σ δ s h) M') := by
  obtain ⟨hs, w, dw, V, r1, r2, r3, r4, r5, r6, r7⟩ := id C
  refine Ct.of rfl (Nat.le_of_ble_eq_true rfl) (fun x => ?_)
  refine r_aload_n dX9_seen_0 rfl ?_
  refine r_iload_n dX9_seen_1 rfl ?_
  refine r_cV1i cvX9_124 (kX9_isSpoon g M hs (zS σ) w.2.1 V.2.1 s) (hs.lt (by decide)) (hs.T 44 rfl) ⟨Nat.le_of_ble_eq_true rfl, Nat.le_of_ble_eq_true rfl⟩ (Nat.le_of_ble_eq_true rfl) ⟨Nat.le_of_ble_eq_true rfl, Nat.le_of_ble_eq_true rfl⟩ dX9_seen_2 (fun z2 M2 h2 => ?_)
  obtain ⟨e2, h2⟩ := h2
  replace e2 := e2.symm
  subst e2
  refine r_if_eq 20 dX9_seen_5 (by decide) (fun c5 => ?_) (fun c5 => ?_)
  · skip
    refine r_bipush (v := -101) dX9_seen_20 (by decide) ?_
    exact r_iret dX9_seen_22 ⟨_, rfl, Fr.rf _ _ _, by rw [seeR, if_neg (fun q => zero_of h2 c5 q.1)], by rw [seeD, if_neg (fun q => zero_of h2 c5 q.1)]; exact C⟩
  · skip
    obtain ⟨j, hj, ej⟩ := ix_ex (by have := w.2.1; omega) (one_of h2 c5).1 (one_of h2 c5).2
    have hj8 : j < 8 := Nat.lt_of_lt_of_le hj w.2.1
    have hcl : s.toNatClampNeg = j := by rw [ej]; exact nI_clamp (by omega)
    refine r_iload_n dX9_seen_8 rfl ?_
    refine r_iconst (v := -1) dX9_seen_9 (by decide) ?_
    refine r_icmp_eq 23 dX9_seen_10 (by decide) (fun c10 => ?_) (fun c10 => ?_)
    · skip
      refine r_aload_n dX9_seen_23 rfl ?_
      refine r_getR flX9_25_9 rfl (hs.lt (by decide)) (hs.T 44 rfl) (hs.R 44 15 rfl) dX9_seen_24 ?_
      refine r_iconst (v := 4) dX9_seen_27 (by decide) ?_
      refine r_iload_n dX9_seen_28 rfl ?_
      refine r_imul dX9_seen_29 ?_
      refine r_iconst (v := 3) dX9_seen_30 (by decide) ?_
      refine r_iadd dX9_seen_31 ?_
      refine r_ial (hs.T 50 rfl) (hs.lt (by decide)) (ix_of (by rw [ej]; exact nI_4 j 3) (by omega) (by decide)) dX9_seen_32 ?_
      refine r_istore_n dX9_seen_33 (by decide) rfl ?_
      refine r_aload_n dX9_seen_34 rfl ?_
      refine r_getR flX9_25_9 rfl (hs.lt (by decide)) (hs.T 44 rfl) (hs.R 44 15 rfl) dX9_seen_35 ?_
      refine r_iconst (v := 4) dX9_seen_38 (by decide) ?_
      refine r_iload_n dX9_seen_39 rfl ?_
      refine r_imul dX9_seen_40 ?_
      refine r_iconst (v := 3) dX9_seen_41 (by decide) ?_
      refine r_iadd dX9_seen_42 ?_
      refine r_iload_n dX9_seen_43 rfl ?_
      refine r_ias (hs.T 50 rfl) (hs.lt (by decide)) (ix_of (by rw [ej]; exact nI_4 j 3) (by omega) (by decide)) dX9_seen_44 ?_
      refine r_iload_n dX9_seen_45 rfl ?_
      exact r_iret dX9_seen_46 ⟨_, rfl, (Fr.rf _ _ _).sI (by simp), by rw [seeR, if_pos ⟨one_of h2 c5, Or.inl c10⟩, hcl]; exact (r1 j hj).2, by rw [seeD, if_pos ⟨one_of h2 c5, Or.inl c10⟩, hcl]; exact C.stE hj⟩
    · skip
      refine r_iload_n dX9_seen_13 rfl ?_
      refine r_cS1i csX9_116 (kX9_isHouse g M hs h) hs.pos ⟨Nat.le_of_ble_eq_true rfl, Nat.le_of_ble_eq_true rfl⟩ (Nat.le_of_ble_eq_true rfl) ⟨Nat.le_of_ble_eq_true rfl, Nat.le_of_ble_eq_true rfl⟩ dX9_seen_14 (fun z14 M14 h14 => ?_)
      obtain ⟨e14, h14⟩ := h14
      replace e14 := e14.symm
      subst e14
      refine r_if_ne 23 dX9_seen_17 (by decide) (fun c17 => ?_) (fun c17 => ?_)
      · skip
        refine r_aload_n dX9_seen_23 rfl ?_
        refine r_getR flX9_25_9 rfl (hs.lt (by decide)) (hs.T 44 rfl) (hs.R 44 15 rfl) dX9_seen_24 ?_
        refine r_iconst (v := 4) dX9_seen_27 (by decide) ?_
        refine r_iload_n dX9_seen_28 rfl ?_
        refine r_imul dX9_seen_29 ?_
        refine r_iconst (v := 3) dX9_seen_30 (by decide) ?_
        refine r_iadd dX9_seen_31 ?_
        refine r_ial (hs.T 50 rfl) (hs.lt (by decide)) (ix_of (by rw [ej]; exact nI_4 j 3) (by omega) (by decide)) dX9_seen_32 ?_
        refine r_istore_n dX9_seen_33 (by decide) rfl ?_
        refine r_aload_n dX9_seen_34 rfl ?_
        refine r_getR flX9_25_9 rfl (hs.lt (by decide)) (hs.T 44 rfl) (hs.R 44 15 rfl) dX9_seen_35 ?_
        refine r_iconst (v := 4) dX9_seen_38 (by decide) ?_
        refine r_iload_n dX9_seen_39 rfl ?_
        refine r_imul dX9_seen_40 ?_
        refine r_iconst (v := 3) dX9_seen_41 (by decide) ?_
        refine r_iadd dX9_seen_42 ?_
        refine r_iload_n dX9_seen_43 rfl ?_
        refine r_ias (hs.T 50 rfl) (hs.lt (by decide)) (ix_of (by rw [ej]; exact nI_4 j 3) (by omega) (by decide)) dX9_seen_44 ?_
        refine r_iload_n dX9_seen_45 rfl ?_
        exact r_iret dX9_seen_46 ⟨_, rfl, (Fr.rf _ _ _).sI (by simp), by rw [seeR, if_pos ⟨one_of h2 c5, Or.inr (one_of h14 c17)⟩, hcl]; exact (r1 j hj).2, by rw [seeD, if_pos ⟨one_of h2 c5, Or.inr (one_of h14 c17)⟩, hcl]; exact C.stE hj⟩
      · skip
        refine r_bipush (v := -101) dX9_seen_20 (by decide) ?_
        exact r_iret dX9_seen_22 ⟨_, rfl, Fr.rf _ _ _, by rw [seeR, if_neg (fun q => q.2.elim c10 (zero_of h14 c17))], by rw [seeD, if_neg (fun q => q.2.elim c10 (zero_of h14 c17))]; exact C⟩
def rmX9_lock : Room := { frames := 2, cells := 0, slots := 0, locals := 45 }
set_option maxHeartbeats 4000000 in
set_option maxRecDepth 100000 in
theorem kX9_lock (g : Gx) (M : Mm) (σ : Ab) (δ : Dy) (C : RA σ δ M) (h v : Int32) : Ct g yX9_lock cX9_lock 4 (Option.some FieldType.int) rmX9_lock [.ref (g.1 + 44), .int h, .int v] M (pI fun r M' => Fr [49] [] M M' ∧ r = lockR δ h v ∧ RA σ (lockD δ h v) M') := by
  obtain ⟨hs, w, dw, V, r1, r2, r3, r4, r5, r6, r7⟩ := id C
  refine Ct.of rfl (Nat.le_of_ble_eq_true rfl) (fun x => ?_)
  refine r_iload_n dX9_lock_0 rfl ?_
  refine r_cS1i csX9_116 (kX9_isHouse g M hs h) hs.pos ⟨Nat.le_of_ble_eq_true rfl, Nat.le_of_ble_eq_true rfl⟩ (Nat.le_of_ble_eq_true rfl) ⟨Nat.le_of_ble_eq_true rfl, Nat.le_of_ble_eq_true rfl⟩ dX9_lock_1 (fun z1 M1 h1 => ?_)
  obtain ⟨e1, h1⟩ := h1
  replace e1 := e1.symm
  subst e1
  refine r_if_ne 10 dX9_lock_4 (by decide) (fun c4 => ?_) (fun c4 => ?_)
  · skip
    obtain ⟨j, hj8, ej⟩ := ix_ex (n := 8) (by decide) (one_of h1 c4).1 (one_of h1 c4).2
    have hcl : h.toNatClampNeg = j := by rw [ej]; exact nI_clamp (by omega)
    refine r_iload_n dX9_lock_10 rfl ?_
    refine r_i2l dX9_lock_11 ?_
    refine r_lconst (v := 0) dX9_lock_12 (by decide) ?_
    refine r_ldc2_w (v := 9) dX9_lock_13 tw764 ?_
    refine r_cS3i csX9_70 (kX9_in g M v.toInt64 0 9) hs.pos ⟨Nat.le_of_ble_eq_true rfl, Nat.le_of_ble_eq_true rfl⟩ (Nat.le_of_ble_eq_true rfl) ⟨Nat.le_of_ble_eq_true rfl, Nat.le_of_ble_eq_true rfl⟩ dX9_lock_16 (fun z16 M16 h16 => ?_)
    obtain ⟨e16, h16⟩ := h16
    replace e16 := e16.symm
    subst e16
    replace h16 := inI 0 9 h16
    refine r_if_ne 25 dX9_lock_19 (by decide) (fun c19 => ?_) (fun c19 => ?_)
    · skip
      refine r_aload_n dX9_lock_25 rfl ?_
      refine r_getR flX9_22_9 rfl (hs.lt (by decide)) (hs.T 44 rfl) (hs.R 44 14 rfl) dX9_lock_26 ?_
      refine r_iload_n dX9_lock_29 rfl ?_
      refine r_ial (hs.T 49 rfl) (hs.lt (by decide)) (ix_of ej hj8 (by decide)) dX9_lock_30 ?_
      refine r_istore_n dX9_lock_31 (by decide) rfl ?_
      refine r_aload_n dX9_lock_32 rfl ?_
      refine r_getR flX9_22_9 rfl (hs.lt (by decide)) (hs.T 44 rfl) (hs.R 44 14 rfl) dX9_lock_33 ?_
      refine r_iload_n dX9_lock_36 rfl ?_
      refine r_iload_n dX9_lock_37 rfl ?_
      refine r_ias (hs.T 49 rfl) (hs.lt (by decide)) (ix_of ej hj8 (by decide)) dX9_lock_38 ?_
      refine r_iload_n dX9_lock_39 rfl ?_
      exact r_iret dX9_lock_40 ⟨_, rfl, (Fr.rf _ _ _).sI (by simp), by rw [lockR, if_pos (one_of h1 c4), if_pos (one_of h16 c19), hcl]; exact r2 j hj8, by rw [lockD, if_pos ⟨one_of h1 c4, one_of h16 c19⟩, hcl]; exact C.stL (one_of h16 c19).1⟩
    · skip
      refine r_bipush (v := -102) dX9_lock_22 (by decide) ?_
      exact r_iret dX9_lock_24 ⟨_, rfl, Fr.rf _ _ _, by rw [lockR, if_pos (one_of h1 c4), if_neg (zero_of h16 c19)], by rw [lockD, if_neg (fun q => zero_of h16 c19 q.2)]; exact C⟩
  · skip
    refine r_bipush (v := -101) dX9_lock_7 (by decide) ?_
    exact r_iret dX9_lock_9 ⟨_, rfl, Fr.rf _ _ _, by rw [lockR, if_neg (zero_of h1 c4)], by rw [lockD, if_neg (fun q => zero_of h1 c4 q.1)]; exact C⟩
def rmX9_tenths : Room := { frames := 2, cells := 0, slots := 0, locals := 46 }
set_option maxHeartbeats 4000000 in
set_option maxRecDepth 100000 in
theorem kX9_tenths (g : Gx) (M : Mm) (σ : Ab) (δ : Dy) (C : RA σ δ M) (t v : Int32) : Ct g yX9_tenths cX9_tenths 4 (Option.some FieldType.int) rmX9_tenths [.ref (g.1 + 44), .int t, .int v] M (pI fun r M' => Fr [48] [] M M' ∧ r = tenR σ δ t v ∧ RA σ (tenD σ δ t v) M') := by
  obtain ⟨hs, w, dw, V, r1, r2, r3, r4, r5, r6, r7⟩ := id C
  refine Ct.of rfl (Nat.le_of_ble_eq_true rfl) (fun x => ?_)
  refine r_aload_n dX9_tenths_0 rfl ?_
  refine r_iload_n dX9_tenths_1 rfl ?_
  refine r_cV1i cvX9_102 (kX9_isThief g M hs (zN σ) w.1 V.1 t) (hs.lt (by decide)) (hs.T 44 rfl) ⟨Nat.le_of_ble_eq_true rfl, Nat.le_of_ble_eq_true rfl⟩ (Nat.le_of_ble_eq_true rfl) ⟨Nat.le_of_ble_eq_true rfl, Nat.le_of_ble_eq_true rfl⟩ dX9_tenths_2 (fun z2 M2 h2 => ?_)
  obtain ⟨e2, h2⟩ := h2
  replace e2 := e2.symm
  subst e2
  refine r_if_ne 11 dX9_tenths_5 (by decide) (fun c5 => ?_) (fun c5 => ?_)
  · skip
    obtain ⟨j, hj, ej⟩ := ix_ex (by have := w.1; omega) (one_of h2 c5).1 (one_of h2 c5).2
    have hj8 : j < 8 := Nat.lt_of_lt_of_le hj w.1
    have hcl : t.toNatClampNeg = j := by rw [ej]; exact nI_clamp (by omega)
    refine r_iload_n dX9_tenths_11 rfl ?_
    refine r_i2l dX9_tenths_12 ?_
    refine r_lconst (v := 0) dX9_tenths_13 (by decide) ?_
    refine r_ldc2_w (v := 10) dX9_tenths_14 tw799 ?_
    refine r_cS3i csX9_70 (kX9_in g M v.toInt64 0 10) hs.pos ⟨Nat.le_of_ble_eq_true rfl, Nat.le_of_ble_eq_true rfl⟩ (Nat.le_of_ble_eq_true rfl) ⟨Nat.le_of_ble_eq_true rfl, Nat.le_of_ble_eq_true rfl⟩ dX9_tenths_17 (fun z17 M17 h17 => ?_)
    obtain ⟨e17, h17⟩ := h17
    replace e17 := e17.symm
    subst e17
    replace h17 := inI 0 10 h17
    refine r_if_ne 26 dX9_tenths_20 (by decide) (fun c20 => ?_) (fun c20 => ?_)
    · skip
      refine r_aload_n dX9_tenths_26 rfl ?_
      refine r_getR flX9_19_9 rfl (hs.lt (by decide)) (hs.T 44 rfl) (hs.R 44 9 rfl) dX9_tenths_27 ?_
      refine r_iload_n dX9_tenths_30 rfl ?_
      refine r_ial (hs.T 48 rfl) (hs.lt (by decide)) (ix_of ej hj8 (by decide)) dX9_tenths_31 ?_
      refine r_istore_n dX9_tenths_32 (by decide) rfl ?_
      refine r_aload_n dX9_tenths_33 rfl ?_
      refine r_getR flX9_19_9 rfl (hs.lt (by decide)) (hs.T 44 rfl) (hs.R 44 9 rfl) dX9_tenths_34 ?_
      refine r_iload_n dX9_tenths_37 rfl ?_
      refine r_iload_n dX9_tenths_38 rfl ?_
      refine r_ias (hs.T 48 rfl) (hs.lt (by decide)) (ix_of ej hj8 (by decide)) dX9_tenths_39 ?_
      refine r_iload_n dX9_tenths_40 rfl ?_
      exact r_iret dX9_tenths_41 ⟨_, rfl, (Fr.rf _ _ _).sI (by simp), by rw [tenR, if_pos (one_of h2 c5), if_pos (one_of h17 c20), hcl]; exact r5 j hj, by rw [tenD, if_pos ⟨one_of h2 c5, one_of h17 c20⟩, hcl]; exact C.stT⟩
    · skip
      refine r_bipush (v := -102) dX9_tenths_23 (by decide) ?_
      exact r_iret dX9_tenths_25 ⟨_, rfl, Fr.rf _ _ _, by rw [tenR, if_pos (one_of h2 c5), if_neg (zero_of h17 c20)], by rw [tenD, if_neg (fun q => zero_of h17 c20 q.2)]; exact C⟩
  · skip
    refine r_bipush (v := -101) dX9_tenths_8 (by decide) ?_
    exact r_iret dX9_tenths_10 ⟨_, rfl, Fr.rf _ _ _, by rw [tenR, if_neg (zero_of h2 c5)], by rw [tenD, if_neg (fun q => zero_of h2 c5 q.1)]; exact C⟩
def rmX9_dog : Room := { frames := 2, cells := 0, slots := 0, locals := 45 }
set_option maxHeartbeats 4000000 in
set_option maxRecDepth 100000 in
theorem kX9_dog (g : Gx) (M : Mm) (σ : Ab) (δ : Dy) (C : RA σ δ M) (t b : Int32) (hb : b01 b) : Ct g yX9_dog cX9_dog 4 (Option.some FieldType.int) rmX9_dog [.ref (g.1 + 44), .int t, .int b] M (pI fun r M' => Fr [44] [] M M' ∧ r = dogR δ t ∧ RA σ (dogD δ t b) M' ∧ ∀ k, k ≠ 13 → mI M' 44 k = mI M 44 k) := by
  obtain ⟨hs, w, dw, V, r1, r2, r3, r4, r5, r6, r7⟩ := id C
  refine Ct.of rfl (Nat.le_of_ble_eq_true rfl) (fun x => ?_)
  refine r_iload_n dX9_dog_0 rfl ?_
  refine r_cS1i csX9_116 (kX9_isHouse g M hs t) hs.pos ⟨Nat.le_of_ble_eq_true rfl, Nat.le_of_ble_eq_true rfl⟩ (Nat.le_of_ble_eq_true rfl) ⟨Nat.le_of_ble_eq_true rfl, Nat.le_of_ble_eq_true rfl⟩ dX9_dog_1 (fun z1 M1 h1 => ?_)
  obtain ⟨e1, h1⟩ := h1
  replace e1 := e1.symm
  subst e1
  refine r_if_ne 10 dX9_dog_4 (by decide) (fun c4 => ?_) (fun c4 => ?_)
  · skip
    obtain ⟨j, hj8, ej⟩ := ix_ex (n := 8) (by decide) (one_of h1 c4).1 (one_of h1 c4).2
    have hcl : t.toNatClampNeg = j := by rw [ej]; exact nI_clamp (by omega)
    refine r_aload_n dX9_dog_10 rfl ?_
    refine r_getI flX9_119_9 rfl (hs.lt (by decide)) (hs.T 44 rfl) dX9_dog_11 ?_
    refine r_iload_n dX9_dog_14 rfl ?_
    refine r_ishr dX9_dog_15 ?_
    refine r_iconst (v := 1) dX9_dog_16 (by decide) ?_
    refine r_iand dX9_dog_17 ?_
    refine r_istore_n dX9_dog_18 (by decide) rfl ?_
    refine r_aload_n dX9_dog_19 rfl ?_
    refine r_dia (P := fun u => ∀ k, k < 8 → bitI u k = if k = j then b else bitI (mI M 44 13) k) 45 (fun u hu => ?_) (fun hJ45 => ?_)
    · skip
      refine r_putI fpX9_119_9 rfl (hs.lt (by decide)) (hs.T 44 rfl) rfl rfl dX9_dog_45 ?_
      refine r_iload_n dX9_dog_48 rfl ?_
      exact r_iret dX9_dog_49 ⟨_, rfl, (Fr.rf _ _ _).sI (by simp), by rw [dogR, if_pos (one_of h1 c4), hcl, ej]; exact r3 j hj8, by rw [dogD, if_pos (one_of h1 c4), hcl]; exact C.stD hb hu, fun k hk => by rw [mI_sI, va_up_ne _ _ hk]⟩
    · skip
      refine r_iload_n dX9_dog_20 rfl ?_
      refine r_if_eq 35 dX9_dog_21 (by decide) (fun c21 => ?_) (fun c21 => ?_)
      · skip
        have hfin : ∀ k, k < 8 → bitI (mI M 44 13 &&& (((1 : Int32) <<< (t &&& 31)) ^^^ -1)) k = if k = j then b else bitI (mI M 44 13) k := fun k hk => by rw [ej, bit_clr _ hj8 hk, c21]
        refine r_aload_n dX9_dog_35 rfl ?_
        refine r_getI flX9_119_9 rfl (hs.lt (by decide)) (hs.T 44 rfl) dX9_dog_36 ?_
        refine r_iconst (v := 1) dX9_dog_39 (by decide) ?_
        refine r_iload_n dX9_dog_40 rfl ?_
        refine r_ishl dX9_dog_41 ?_
        refine r_iconst (v := -1) dX9_dog_42 (by decide) ?_
        refine r_ixor dX9_dog_43 ?_
        refine r_iand dX9_dog_44 ?_
        exact hJ45 _ hfin
      · skip
        have hfin : ∀ k, k < 8 → bitI (mI M 44 13 ||| (1 : Int32) <<< (t &&& 31)) k = if k = j then b else bitI (mI M 44 13) k := fun k hk => by rw [ej, bit_set _ hj8 hk, hb.resolve_left c21]
        refine r_aload_n dX9_dog_24 rfl ?_
        refine r_getI flX9_119_9 rfl (hs.lt (by decide)) (hs.T 44 rfl) dX9_dog_25 ?_
        refine r_iconst (v := 1) dX9_dog_28 (by decide) ?_
        refine r_iload_n dX9_dog_29 rfl ?_
        refine r_ishl dX9_dog_30 ?_
        refine r_ior dX9_dog_31 ?_
        refine r_goto 45 dX9_dog_32 (by decide) ?_
        exact hJ45 _ hfin
  · skip
    refine r_bipush (v := -101) dX9_dog_7 (by decide) ?_
    exact r_iret dX9_dog_9 ⟨_, rfl, Fr.rf _ _ _, by rw [dogR, if_neg (zero_of h1 c4)], by rw [dogD, if_neg (zero_of h1 c4)]; exact C, fun _ _ => rfl⟩
def rmX9_paid : Room := { frames := 2, cells := 0, slots := 0, locals := 46 }
set_option maxHeartbeats 4000000 in
set_option maxRecDepth 100000 in
theorem kX9_paid (g : Gx) (M : Mm) (σ : Ab) (δ : Dy) (C : RA σ δ M) (t b : Int32) (hb : b01 b) : Ct g yX9_paid cX9_paid 4 (Option.some FieldType.int) rmX9_paid [.ref (g.1 + 44), .int t, .int b] M (pI fun r M' => Fr [44] [] M M' ∧ r = paidR σ δ t ∧ RA σ (paidD σ δ t b) M' ∧ ∀ k, k ≠ 8 → mI M' 44 k = mI M 44 k) := by
  obtain ⟨hs, w, dw, V, r1, r2, r3, r4, r5, r6, r7⟩ := id C
  refine Ct.of rfl (Nat.le_of_ble_eq_true rfl) (fun x => ?_)
  refine r_aload_n dX9_paid_0 rfl ?_
  refine r_iload_n dX9_paid_1 rfl ?_
  refine r_cV1i cvX9_102 (kX9_isThief g M hs (zN σ) w.1 V.1 t) (hs.lt (by decide)) (hs.T 44 rfl) ⟨Nat.le_of_ble_eq_true rfl, Nat.le_of_ble_eq_true rfl⟩ (Nat.le_of_ble_eq_true rfl) ⟨Nat.le_of_ble_eq_true rfl, Nat.le_of_ble_eq_true rfl⟩ dX9_paid_2 (fun z2 M2 h2 => ?_)
  obtain ⟨e2, h2⟩ := h2
  replace e2 := e2.symm
  subst e2
  refine r_if_ne 11 dX9_paid_5 (by decide) (fun c5 => ?_) (fun c5 => ?_)
  · skip
    obtain ⟨j, hj, ej⟩ := ix_ex (by have := w.1; omega) (one_of h2 c5).1 (one_of h2 c5).2
    have hj8 : j < 8 := Nat.lt_of_lt_of_le hj w.1
    have hcl : t.toNatClampNeg = j := by rw [ej]; exact nI_clamp (by omega)
    refine r_aload_n dX9_paid_11 rfl ?_
    refine r_getI flX9_94_9 rfl (hs.lt (by decide)) (hs.T 44 rfl) dX9_paid_12 ?_
    refine r_iload_n dX9_paid_15 rfl ?_
    refine r_ishr dX9_paid_16 ?_
    refine r_iconst (v := 1) dX9_paid_17 (by decide) ?_
    refine r_iand dX9_paid_18 ?_
    refine r_istore_n dX9_paid_19 (by decide) rfl ?_
    refine r_aload_n dX9_paid_20 rfl ?_
    refine r_dia (P := fun u => ∀ k, k < 8 → bitI u k = if k = j then b else bitI (mI M 44 8) k) 46 (fun u hu => ?_) (fun hJ46 => ?_)
    · skip
      refine r_putI fpX9_94_9 rfl (hs.lt (by decide)) (hs.T 44 rfl) rfl rfl dX9_paid_46 ?_
      refine r_iload_n dX9_paid_49 rfl ?_
      exact r_iret dX9_paid_50 ⟨_, rfl, (Fr.rf _ _ _).sI (by simp), by rw [paidR, if_pos (one_of h2 c5), hcl, ej]; exact r4 j hj, by rw [paidD, if_pos (one_of h2 c5), hcl]; exact C.stQ hb hu, fun k hk => by rw [mI_sI, va_up_ne _ _ hk]⟩
    · skip
      refine r_iload_n dX9_paid_21 rfl ?_
      refine r_if_eq 36 dX9_paid_22 (by decide) (fun c22 => ?_) (fun c22 => ?_)
      · skip
        have hfin : ∀ k, k < 8 → bitI (mI M 44 8 &&& (((1 : Int32) <<< (t &&& 31)) ^^^ -1)) k = if k = j then b else bitI (mI M 44 8) k := fun k hk => by rw [ej, bit_clr _ hj8 hk, c22]
        refine r_aload_n dX9_paid_36 rfl ?_
        refine r_getI flX9_94_9 rfl (hs.lt (by decide)) (hs.T 44 rfl) dX9_paid_37 ?_
        refine r_iconst (v := 1) dX9_paid_40 (by decide) ?_
        refine r_iload_n dX9_paid_41 rfl ?_
        refine r_ishl dX9_paid_42 ?_
        refine r_iconst (v := -1) dX9_paid_43 (by decide) ?_
        refine r_ixor dX9_paid_44 ?_
        refine r_iand dX9_paid_45 ?_
        exact hJ46 _ hfin
      · skip
        have hfin : ∀ k, k < 8 → bitI (mI M 44 8 ||| (1 : Int32) <<< (t &&& 31)) k = if k = j then b else bitI (mI M 44 8) k := fun k hk => by rw [ej, bit_set _ hj8 hk, hb.resolve_left c22]
        refine r_aload_n dX9_paid_25 rfl ?_
        refine r_getI flX9_94_9 rfl (hs.lt (by decide)) (hs.T 44 rfl) dX9_paid_26 ?_
        refine r_iconst (v := 1) dX9_paid_29 (by decide) ?_
        refine r_iload_n dX9_paid_30 rfl ?_
        refine r_ishl dX9_paid_31 ?_
        refine r_ior dX9_paid_32 ?_
        refine r_goto 46 dX9_paid_33 (by decide) ?_
        exact hJ46 _ hfin
  · skip
    refine r_bipush (v := -101) dX9_paid_8 (by decide) ?_
    exact r_iret dX9_paid_10 ⟨_, rfl, Fr.rf _ _ _, by rw [paidR, if_neg (zero_of h2 c5)], by rw [paidD, if_neg (zero_of h2 c5)]; exact C, fun _ _ => rfl⟩
