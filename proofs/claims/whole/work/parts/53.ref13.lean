/-! the reference: its digest -/
def dgL (σ : Ab) (δ : Dy) (h : Int64) : Nat → Int64
  | 0 => h
  | k + 1 => wiL (dgL σ δ h k) (sivR σ δ (k / 4) (nI (k % 4)))
theorem siv_sil {σ : Ab} {δ : Dy} {s : Nat} (w : Wf σ) (hs : s < zS σ) (v : Int32) : silR σ δ (nI s) v = sivR σ δ s v := by
  have h8 := w.2.1
  rw [silR_t ⟨nI_pos' (by omega), nI_lt hs (by omega)⟩, nI_clamp (by omega)]
theorem dgL_4 {σ : Ab} {δ : Dy} (w : Wf σ) (h : Int64) : ∀ s, s ≤ zS σ → dgL σ δ h (4 * s) = dgS σ δ h s
  | 0, _ => rfl
  | s + 1, hs => by
    rw [show 4 * (s + 1) = 4 * s + 1 + 1 + 1 + 1 by omega, dgL, dgL, dgL, dgL, dgL_4 w h s (by omega)]
    rw [show (4 * s + 1 + 1 + 1) / 4 = s by omega, show (4 * s + 1 + 1) / 4 = s by omega, show (4 * s + 1) / 4 = s by omega, show 4 * s / 4 = s by omega, show (4 * s + 1 + 1 + 1) % 4 = 3 by omega, show (4 * s + 1 + 1) % 4 = 2 by omega, show (4 * s + 1) % 4 = 1 by omega, show 4 * s % 4 = 0 by omega]
    show _ = dgZ σ δ s (dgS σ δ h s) 4
    rw [dgZ, dgZ, dgZ, dgZ, dgZ, siv_sil w (by omega), siv_sil w (by omega), siv_sil w (by omega), siv_sil w (by omega)]
theorem tell_ab {σ : Ab} {δ : Dy} {t : Nat} (w : Wf σ) (ht : t < zN σ) (v : Int32) : aboutR σ δ (nI t) v = tellR σ δ t v := by
  have h8 := w.1
  rw [aboutR_t ⟨nI_pos' (by omega), nI_lt ht (by omega)⟩, nI_clamp (by omega)]
def rmX9_say : Room := { frames := 0, cells := 0, slots := 0, locals := 0 }
set_option maxHeartbeats 4000000 in
set_option maxRecDepth 100000 in
theorem kX9_say (g : Gx) (M : Mm) (hs : St M) (v : Int64) : Ct g yX9_say cX9_say 3 none rmX9_say [.ref (g.1 + 44), .long v] M (pV fun M' => M' = sL M 44 31 (31 * mL M 44 31 + v)) := by
  refine Ct.of rfl (Nat.le_of_ble_eq_true rfl) (fun x => ?_)
  refine r_aload_n dX9_say_0 rfl ?_
  refine r_ldc2_w (v := 31) dX9_say_1 tw988 ?_
  refine r_aload_n dX9_say_4 rfl ?_
  refine r_getL flX9_248_9 rfl (hs.lt (by decide)) (hs.T 44 rfl) dX9_say_5 ?_
  refine r_lmul dX9_say_8 ?_
  refine r_lload_n dX9_say_9 rfl ?_
  refine r_ladd dX9_say_10 ?_
  refine r_putL fpX9_248_9 rfl (hs.lt (by decide)) (hs.T 44 rfl) dX9_say_11 ?_
  exact r_ret dX9_say_14 ⟨rfl, rfl⟩
def rmX9_digest : Room := { frames := 5, cells := 0, slots := 0, locals := 124 }
set_option maxHeartbeats 4000000 in
set_option maxRecDepth 100000 in
theorem lp_rdg7 (g : Gx) (x : Cx) (M : Mm) (σ : Ab) (δ : Dy) (C : RA σ δ M) (pg : Rw) (pn : Nat) (hpn : mI M 44 1 = nI pn) (h40 : pn ≤ 40) (hpg : ∀ k, k < pn → mI M 45 k = pg k) (F : Int32) (hf : fewQ σ δ F) : ∀ (n : Nat) (i : Nat) (v : Int32) (M1 : Mm), i ≤ 7 → 7 - i < n → v = nI i → Fr [51, 52, 54, 55] [44] M M1 → mL M1 44 31 = dgC σ δ (nI pn) (mI M 44 6) (dgP pg (dgG σ δ F) pn) i → Vj x g yX9_digest cX9_digest 3 (Option.some FieldType.long) rmX9_digest (Qm x g rmX9_digest.cells rmX9_digest.slots (pL fun r M' => Fr [51, 52, 54, 55] [44] M M' ∧ ∃ F, fewQ σ δ F ∧ r = digR σ δ F pg pn (mI M 44 6))) 0 0 M1 226 [(0, some (.ref (g.1 + 44))), (1, some (.int v))] [] := by
  intro n
  induction n with
  | zero => intro i v M1 hi8 hn hv hF he; omega
  | succ n ih =>
    intro i v M1 hi8 hn hv hF he
    obtain ⟨hs, w, dw, V, r1, r2, r3, r4, r5, r6, r7⟩ := id C
    have hs1 := hs.fr hF
    have C1 : RA σ δ M1 := C.fr hF (by simp)
    have g1 : mI M1 44 = mI M 44 := hF.2.1 44 (by decide)
    subst hv
    have hv : nI i = nI i := rfl
    refine r_iload_n dX9_digest_226 rfl ?_
    refine r_bipush (v := 7) dX9_digest_227 (by decide) ?_
    refine r_icmp_ge 248 dX9_digest_229 (by decide) (fun c229 => ?_) (fun c229 => ?_)
    · skip
      have ez := lp_ge (n := 7) hv rfl c229 hi8 (by decide)
      subst ez
      refine r_aload_n dX9_digest_248 rfl ?_
      refine r_getL flX9_248_9 rfl (hs1.lt (by decide)) (hs1.T 44 rfl) dX9_digest_249 ?_
      exact r_lret dX9_digest_252 ⟨_, rfl, hF, F, hf, he⟩
    · skip
      have hi8 : i < 7 := lp_lt (n := 7) hv rfl c229 hi8 (by decide)
      refine r_aload_n dX9_digest_232 rfl ?_
      refine r_aload_n dX9_digest_233 rfl ?_
      refine r_iload_n dX9_digest_234 rfl ?_
      refine r_cV1i cvX9_243 (kX9_countOf g M1 σ δ C1 (nI i)) (hs1.lt (by decide)) (hs1.T 44 rfl) ⟨Nat.le_of_ble_eq_true rfl, Nat.le_of_ble_eq_true rfl⟩ (Nat.le_of_ble_eq_true rfl) ⟨Nat.le_of_ble_eq_true rfl, Nat.le_of_ble_eq_true rfl⟩ dX9_digest_235 (fun z235 M235 h235 => ?_)
      obtain ⟨e235, h235⟩ := h235
      replace e235 := e235.symm
      subst e235
      rw [g1, hpn] at h235
      refine r_i2l dX9_digest_238 ?_
      refine r_cV1v cvX9_254 (kX9_say g M1 hs1 (z235.toInt64)) (hs1.lt (by decide)) (hs1.T 44 rfl) ⟨Nat.le_of_ble_eq_true rfl, Nat.le_of_ble_eq_true rfl⟩ (Nat.le_of_ble_eq_true rfl) ⟨Nat.le_of_ble_eq_true rfl, Nat.le_of_ble_eq_true rfl⟩ dX9_digest_239 (fun M239 h239 => ?_)
      have f239 : Fr [51, 52, 54, 55] [44] M M239 := by rw [h239]; exact hF.sL (by simp)
      have hs239 := hs.fr f239
      have e239 : mL M239 44 31 = 31 * mL M1 44 31 + (z235.toInt64) := by rw [h239, mL_sL, va_up_self]
      refine r_iinc dX9_digest_242 rfl rfl rfl ?_
      refine r_goto 226 dX9_digest_245 (by decide) ?_
      exact r_lv (lvSc rfl (lvSc rfl lvS0)) (ih (i + 1) _ M239 (by omega) (by omega) (nI_inc rfl) f239 (by rw [e239, he, h235]; rfl))
set_option maxHeartbeats 4000000 in
set_option maxRecDepth 100000 in
theorem lp_rdg6 (g : Gx) (x : Cx) (M : Mm) (σ : Ab) (δ : Dy) (C : RA σ δ M) (pg : Rw) (pn : Nat) (hpn : mI M 44 1 = nI pn) (h40 : pn ≤ 40) (hpg : ∀ k, k < pn → mI M 45 k = pg k) (F : Int32) (hf : fewQ σ δ F) : ∀ (n : Nat) (i : Nat) (v : Int32) (M1 : Mm), i ≤ pn → pn - i < n → v = nI i → Fr [51, 52, 54, 55] [44] M M1 → mL M1 44 31 = dgP pg (dgG σ δ F) i → Vj x g yX9_digest cX9_digest 3 (Option.some FieldType.long) rmX9_digest (Qm x g rmX9_digest.cells rmX9_digest.slots (pL fun r M' => Fr [51, 52, 54, 55] [44] M M' ∧ ∃ F, fewQ σ δ F ∧ r = digR σ δ F pg pn (mI M 44 6))) 0 0 M1 199 [(0, some (.ref (g.1 + 44))), (1, some (.int v))] [] := by
  intro n
  induction n with
  | zero => intro i v M1 hi8 hn hv hF he; omega
  | succ n ih =>
    intro i v M1 hi8 hn hv hF he
    obtain ⟨hs, w, dw, V, r1, r2, r3, r4, r5, r6, r7⟩ := id C
    have hs1 := hs.fr hF
    have C1 : RA σ δ M1 := C.fr hF (by simp)
    have g1 : mI M1 44 = mI M 44 := hF.2.1 44 (by decide)
    subst hv
    have hv : nI i = nI i := rfl
    refine r_iload_n dX9_digest_199 rfl ?_
    refine r_aload_n dX9_digest_200 rfl ?_
    refine r_getI flX9_59_9 rfl (hs1.lt (by decide)) (hs1.T 44 rfl) dX9_digest_201 ?_
    refine r_icmp_ge 224 dX9_digest_204 (by decide) (fun c204 => ?_) (fun c204 => ?_)
    · skip
      rw [g1] at c204
      have ez := lp_ge (n := pn) hv hpn c204 hi8 (by omega)
      subst ez
      refine r_iconst (v := 0) dX9_digest_224 (by decide) ?_
      refine r_istore_n dX9_digest_225 (by decide) rfl ?_
      exact r_lv (lvSc rfl (lvSc rfl lvS0)) (lp_rdg7 g x M σ δ C pg i hpn h40 hpg F hf 8 0 0 M1 (by omega) (by omega) rfl hF he)
    · skip
      rw [g1] at c204
      have hi8 : i < pn := lp_lt (n := pn) hv hpn c204 hi8 (by omega)
      refine r_aload_n dX9_digest_207 rfl ?_
      refine r_aload_n dX9_digest_208 rfl ?_
      refine r_getR flX9_7_9 rfl (hs1.lt (by decide)) (hs1.T 44 rfl) (hs1.R 44 0 rfl) dX9_digest_209 ?_
      refine r_iload_n dX9_digest_212 rfl ?_
      refine r_ial (hs1.T 45 rfl) (hs1.lt (by decide)) (ix_nI (by omega) (by decide)) dX9_digest_213 ?_
      refine r_i2l dX9_digest_214 ?_
      refine r_cV1v cvX9_254 (kX9_say g M1 hs1 ((mI M1 45 i).toInt64)) (hs1.lt (by decide)) (hs1.T 44 rfl) ⟨Nat.le_of_ble_eq_true rfl, Nat.le_of_ble_eq_true rfl⟩ (Nat.le_of_ble_eq_true rfl) ⟨Nat.le_of_ble_eq_true rfl, Nat.le_of_ble_eq_true rfl⟩ dX9_digest_215 (fun M215 h215 => ?_)
      have f215 : Fr [51, 52, 54, 55] [44] M M215 := by rw [h215]; exact hF.sL (by simp)
      have hs215 := hs.fr f215
      have e215 : mL M215 44 31 = 31 * mL M1 44 31 + ((mI M1 45 i).toInt64) := by rw [h215, mL_sL, va_up_self]
      refine r_iinc dX9_digest_218 rfl rfl rfl ?_
      refine r_goto 199 dX9_digest_221 (by decide) ?_
      exact r_lv (lvSc rfl (lvSc rfl lvS0)) (ih (i + 1) _ M215 (by omega) (by omega) (nI_inc rfl) f215 (by rw [e215, he, hF.2.1 45 (by decide), hpg i hi8]; rfl))
set_option maxHeartbeats 4000000 in
set_option maxRecDepth 100000 in
theorem lp_rdg5 (g : Gx) (x : Cx) (M : Mm) (σ : Ab) (δ : Dy) (C : RA σ δ M) (pg : Rw) (pn : Nat) (hpn : mI M 44 1 = nI pn) (h40 : pn ≤ 40) (hpg : ∀ k, k < pn → mI M 45 k = pg k) (F : Int32) (hf : fewQ σ δ F) (hN : ¬ zN σ = 0) : ∀ (n : Nat) (i : Nat) (v : Int32) (M1 : Mm), i ≤ 8 → 8 - i < n → v = nI i → Fr [51, 52, 54, 55] [44] M M1 → mL M1 44 31 = dgO σ δ (dgE σ δ F) i → Vj x g yX9_digest cX9_digest 3 (Option.some FieldType.long) rmX9_digest (Qm x g rmX9_digest.cells rmX9_digest.slots (pL fun r M' => Fr [51, 52, 54, 55] [44] M M' ∧ ∃ F, fewQ σ δ F ∧ r = digR σ δ F pg pn (mI M 44 6))) 0 0 M1 161 [(0, some (.ref (g.1 + 44))), (1, some (.int v))] [] := by
  intro n
  induction n with
  | zero => intro i v M1 hi8 hn hv hF he; omega
  | succ n ih =>
    intro i v M1 hi8 hn hv hF he
    obtain ⟨hs, w, dw, V, r1, r2, r3, r4, r5, r6, r7⟩ := id C
    have hs1 := hs.fr hF
    have C1 : RA σ δ M1 := C.fr hF (by simp)
    have g1 : mI M1 44 = mI M 44 := hF.2.1 44 (by decide)
    subst hv
    have hv : nI i = nI i := rfl
    refine r_iload_n dX9_digest_161 rfl ?_
    refine r_bipush (v := 8) dX9_digest_162 (by decide) ?_
    refine r_icmp_ge 197 dX9_digest_164 (by decide) (fun c164 => ?_) (fun c164 => ?_)
    · skip
      have ez := lp_ge (n := 8) hv rfl c164 hi8 (by decide)
      subst ez
      refine r_iconst (v := 0) dX9_digest_197 (by decide) ?_
      refine r_istore_n dX9_digest_198 (by decide) rfl ?_
      exact r_lv (lvSc rfl (lvSc rfl lvS0)) (lp_rdg6 g x M σ δ C pg pn hpn h40 hpg F hf (pn + 1) 0 0 M1 (by omega) (by omega) rfl hF (by rw [he]; show _ = dgG σ δ F; rw [dgG, if_neg hN]))
    · skip
      have hi8 : i < 8 := lp_lt (n := 8) hv rfl c164 hi8 (by decide)
      refine r_aload_n dX9_digest_167 rfl ?_
      refine r_aload_n dX9_digest_168 rfl ?_
      refine r_iload_n dX9_digest_169 rfl ?_
      refine r_iconst (v := 3) dX9_digest_170 (by decide) ?_
      refine r_iconst (v := 0) dX9_digest_171 (by decide) ?_
      refine r_cV3i cvX9_189 ((show Ct _ _ _ _ _ _ [.ref (g.1 + 44), .int (nI i), .int 3, .int 0] _ _ from kX9_whomOf g M1 σ δ (C.fr hF (by simp)) (nI i) 0 3 (by decide))) (hs1.lt (by decide)) (hs1.T 44 rfl) ⟨Nat.le_of_ble_eq_true rfl, Nat.le_of_ble_eq_true rfl⟩ (Nat.le_of_ble_eq_true rfl) ⟨Nat.le_of_ble_eq_true rfl, Nat.le_of_ble_eq_true rfl⟩ dX9_digest_172 (fun z172 M172 h172 => ?_)
      obtain ⟨a172, b172⟩ := h172
      have f172 : Fr [51, 52, 54, 55] [44] M M172 := hF.tr (a172.mono (by simp) (by simp))
      have hs172 := hs.fr f172
      have l172 : mL M172 44 = mL M1 44 := a172.2.2 44 (by decide)
      refine r_i2l dX9_digest_175 ?_
      refine r_cV1v cvX9_254 (kX9_say g M172 hs172 (z172.toInt64)) (hs172.lt (by decide)) (hs172.T 44 rfl) ⟨Nat.le_of_ble_eq_true rfl, Nat.le_of_ble_eq_true rfl⟩ (Nat.le_of_ble_eq_true rfl) ⟨Nat.le_of_ble_eq_true rfl, Nat.le_of_ble_eq_true rfl⟩ dX9_digest_176 (fun M176 h176 => ?_)
      have f176 : Fr [51, 52, 54, 55] [44] M M176 := by rw [h176]; exact f172.sL (by simp)
      have hs176 := hs.fr f176
      have e176 : mL M176 44 31 = 31 * mL M172 44 31 + (z172.toInt64) := by rw [h176, mL_sL, va_up_self]
      refine r_aload_n dX9_digest_179 rfl ?_
      refine r_aload_n dX9_digest_180 rfl ?_
      refine r_iload_n dX9_digest_181 rfl ?_
      refine r_iconst (v := 3) dX9_digest_182 (by decide) ?_
      refine r_iconst (v := 1) dX9_digest_183 (by decide) ?_
      refine r_cV3i cvX9_189 ((show Ct _ _ _ _ _ _ [.ref (g.1 + 44), .int (nI i), .int 3, .int 1] _ _ from kX9_whomOf g M176 σ δ (C.fr f176 (by simp)) (nI i) 1 3 (by decide))) (hs176.lt (by decide)) (hs176.T 44 rfl) ⟨Nat.le_of_ble_eq_true rfl, Nat.le_of_ble_eq_true rfl⟩ (Nat.le_of_ble_eq_true rfl) ⟨Nat.le_of_ble_eq_true rfl, Nat.le_of_ble_eq_true rfl⟩ dX9_digest_184 (fun z184 M184 h184 => ?_)
      obtain ⟨a184, b184⟩ := h184
      have f184 : Fr [51, 52, 54, 55] [44] M M184 := f176.tr (a184.mono (by simp) (by simp))
      have hs184 := hs.fr f184
      have l184 : mL M184 44 = mL M176 44 := a184.2.2 44 (by decide)
      refine r_i2l dX9_digest_187 ?_
      refine r_cV1v cvX9_254 (kX9_say g M184 hs184 (z184.toInt64)) (hs184.lt (by decide)) (hs184.T 44 rfl) ⟨Nat.le_of_ble_eq_true rfl, Nat.le_of_ble_eq_true rfl⟩ (Nat.le_of_ble_eq_true rfl) ⟨Nat.le_of_ble_eq_true rfl, Nat.le_of_ble_eq_true rfl⟩ dX9_digest_188 (fun M188 h188 => ?_)
      have f188 : Fr [51, 52, 54, 55] [44] M M188 := by rw [h188]; exact f184.sL (by simp)
      have hs188 := hs.fr f188
      have e188 : mL M188 44 31 = 31 * mL M184 44 31 + (z184.toInt64) := by rw [h188, mL_sL, va_up_self]
      refine r_iinc dX9_digest_191 rfl rfl rfl ?_
      refine r_goto 161 dX9_digest_194 (by decide) ?_
      exact r_lv (lvSc rfl (lvSc rfl lvS0)) (ih (i + 1) _ M188 (by omega) (by omega) (nI_inc rfl) f188 (by rw [e188, l184, e176, l172, he, b172, b184]; rfl))
set_option maxHeartbeats 4000000 in
set_option maxRecDepth 100000 in
theorem lp_rdg4 (g : Gx) (x : Cx) (M : Mm) (σ : Ab) (δ : Dy) (C : RA σ δ M) (pg : Rw) (pn : Nat) (hpn : mI M 44 1 = nI pn) (h40 : pn ≤ 40) (hpg : ∀ k, k < pn → mI M 45 k = pg k) : ∀ (n : Nat) (i : Nat) (v : Int32) (M1 : Mm), i ≤ 4 * zS σ → 4 * zS σ - i < n → v = nI i → Fr [51, 52, 54, 55] [44] M M1 → mL M1 44 31 = dgL σ δ (dgH σ δ (dgT σ δ 673 (zN σ)) 8) i → Vj x g yX9_digest cX9_digest 3 (Option.some FieldType.long) rmX9_digest (Qm x g rmX9_digest.cells rmX9_digest.slots (pL fun r M' => Fr [51, 52, 54, 55] [44] M M' ∧ ∃ F, fewQ σ δ F ∧ r = digR σ δ F pg pn (mI M 44 6))) 0 0 M1 98 [(0, some (.ref (g.1 + 44))), (1, some (.int v))] [] := by
  intro n
  induction n with
  | zero => intro i v M1 hi8 hn hv hF he; omega
  | succ n ih =>
    intro i v M1 hi8 hn hv hF he
    obtain ⟨hs, w, dw, V, r1, r2, r3, r4, r5, r6, r7⟩ := id C
    have hs1 := hs.fr hF
    have C1 : RA σ δ M1 := C.fr hF (by simp)
    have g1 : mI M1 44 = mI M 44 := hF.2.1 44 (by decide)
    subst hv
    have hv : nI i = nI i := rfl
    refine r_iload_n dX9_digest_98 rfl ?_
    refine r_iconst (v := 4) dX9_digest_99 (by decide) ?_
    refine r_aload_n dX9_digest_100 rfl ?_
    refine r_getI flX9_113_9 rfl (hs1.lt (by decide)) (hs1.T 44 rfl) dX9_digest_101 ?_
    refine r_imul dX9_digest_104 ?_
    refine r_icmp_ge 125 dX9_digest_105 (by decide) (fun c105 => ?_) (fun c105 => ?_)
    · skip
      rw [g1, V.2.1, nI_40] at c105
      have ez := lp_ge (n := 4 * zS σ) hv rfl c105 hi8 (by have := w.2.1; omega)
      subst ez
      rw [dgL_4 w _ _ (Nat.le_refl _)] at he
      refine r_aload_n dX9_digest_125 rfl ?_
      refine r_aload_n dX9_digest_126 rfl ?_
      refine r_cV0i cvX9_208 (kX9_fewestOf g M1 σ δ (C.fr hF (by simp))) (hs1.lt (by decide)) (hs1.T 44 rfl) ⟨Nat.le_of_ble_eq_true rfl, Nat.le_of_ble_eq_true rfl⟩ (Nat.le_of_ble_eq_true rfl) ⟨Nat.le_of_ble_eq_true rfl, Nat.le_of_ble_eq_true rfl⟩ dX9_digest_127 (fun z127 M127 h127 => ?_)
      obtain ⟨a127, b127⟩ := h127
      have f127 : Fr [51, 52, 54, 55] [44] M M127 := hF.tr (a127.mono (by simp) (by simp))
      have hs127 := hs.fr f127
      have l127 : mL M127 44 = mL M1 44 := a127.2.2 44 (by decide)
      refine r_i2l dX9_digest_130 ?_
      refine r_cV1v cvX9_254 (kX9_say g M127 hs127 (z127.toInt64)) (hs127.lt (by decide)) (hs127.T 44 rfl) ⟨Nat.le_of_ble_eq_true rfl, Nat.le_of_ble_eq_true rfl⟩ (Nat.le_of_ble_eq_true rfl) ⟨Nat.le_of_ble_eq_true rfl, Nat.le_of_ble_eq_true rfl⟩ dX9_digest_131 (fun M131 h131 => ?_)
      have f131 : Fr [51, 52, 54, 55] [44] M M131 := by rw [h131]; exact f127.sL (by simp)
      have hs131 := hs.fr f131
      have e131 : mL M131 44 31 = 31 * mL M127 44 31 + (z127.toInt64) := by rw [h131, mL_sL, va_up_self]
      refine r_aload_n dX9_digest_134 rfl ?_
      refine r_cV0i cvX9_147 (kX9_lacks g M131 hs131) (hs131.lt (by decide)) (hs131.T 44 rfl) ⟨Nat.le_of_ble_eq_true rfl, Nat.le_of_ble_eq_true rfl⟩ (Nat.le_of_ble_eq_true rfl) ⟨Nat.le_of_ble_eq_true rfl, Nat.le_of_ble_eq_true rfl⟩ dX9_digest_135 (fun z135 M135 h135 => ?_)
      obtain ⟨e135, h135⟩ := h135
      replace e135 := e135.symm
      subst e135
      rw [f131.2.1 44 (by decide), V.1, ite_iff (nI_zero w.1)] at h135
      have eE : mL M131 44 31 = dgE σ δ z127 := by rw [e131, l127, he]; rfl
      refine r_if_ne 197 dX9_digest_138 (by decide) (fun c138 => ?_) (fun c138 => ?_)
      · skip
        refine r_iconst (v := 0) dX9_digest_197 (by decide) ?_
        refine r_istore_n dX9_digest_198 (by decide) rfl ?_
        have hN := one_of h135 c138
        exact r_lv (lvSc rfl (lvSc rfl lvS0)) (lp_rdg6 g x M σ δ C pg pn hpn h40 hpg z127 b127 (pn + 1) 0 0 M131 (by omega) (by omega) rfl f131 (by rw [eE]; show _ = dgG σ δ z127; rw [dgG, if_pos hN]))
      · skip
        refine r_aload_n dX9_digest_141 rfl ?_
        refine r_aload_n dX9_digest_142 rfl ?_
        refine r_cV0i cvX9_193 (kX9_stillOf g M131 σ δ (C.fr f131 (by simp))) (hs131.lt (by decide)) (hs131.T 44 rfl) ⟨Nat.le_of_ble_eq_true rfl, Nat.le_of_ble_eq_true rfl⟩ (Nat.le_of_ble_eq_true rfl) ⟨Nat.le_of_ble_eq_true rfl, Nat.le_of_ble_eq_true rfl⟩ dX9_digest_143 (fun z143 M143 h143 => ?_)
        obtain ⟨a143, b143⟩ := h143
        have f143 : Fr [51, 52, 54, 55] [44] M M143 := f131.tr (a143.mono (by simp) (by simp))
        have hs143 := hs.fr f143
        have l143 : mL M143 44 = mL M131 44 := a143.2.2 44 (by decide)
        refine r_i2l dX9_digest_146 ?_
        refine r_cV1v cvX9_254 (kX9_say g M143 hs143 (z143.toInt64)) (hs143.lt (by decide)) (hs143.T 44 rfl) ⟨Nat.le_of_ble_eq_true rfl, Nat.le_of_ble_eq_true rfl⟩ (Nat.le_of_ble_eq_true rfl) ⟨Nat.le_of_ble_eq_true rfl, Nat.le_of_ble_eq_true rfl⟩ dX9_digest_147 (fun M147 h147 => ?_)
        have f147 : Fr [51, 52, 54, 55] [44] M M147 := by rw [h147]; exact f143.sL (by simp)
        have hs147 := hs.fr f147
        have e147 : mL M147 44 31 = 31 * mL M143 44 31 + (z143.toInt64) := by rw [h147, mL_sL, va_up_self]
        refine r_aload_n dX9_digest_150 rfl ?_
        refine r_aload_n dX9_digest_151 rfl ?_
        refine r_cV0i cvX9_199 (kX9_whoOf g M147 σ δ (C.fr f147 (by simp))) (hs147.lt (by decide)) (hs147.T 44 rfl) ⟨Nat.le_of_ble_eq_true rfl, Nat.le_of_ble_eq_true rfl⟩ (Nat.le_of_ble_eq_true rfl) ⟨Nat.le_of_ble_eq_true rfl, Nat.le_of_ble_eq_true rfl⟩ dX9_digest_152 (fun z152 M152 h152 => ?_)
        obtain ⟨a152, b152⟩ := h152
        have f152 : Fr [51, 52, 54, 55] [44] M M152 := f147.tr (a152.mono (by simp) (by simp))
        have hs152 := hs.fr f152
        have l152 : mL M152 44 = mL M147 44 := a152.2.2 44 (by decide)
        refine r_i2l dX9_digest_155 ?_
        refine r_cV1v cvX9_254 (kX9_say g M152 hs152 (z152.toInt64)) (hs152.lt (by decide)) (hs152.T 44 rfl) ⟨Nat.le_of_ble_eq_true rfl, Nat.le_of_ble_eq_true rfl⟩ (Nat.le_of_ble_eq_true rfl) ⟨Nat.le_of_ble_eq_true rfl, Nat.le_of_ble_eq_true rfl⟩ dX9_digest_156 (fun M156 h156 => ?_)
        have f156 : Fr [51, 52, 54, 55] [44] M M156 := by rw [h156]; exact f152.sL (by simp)
        have hs156 := hs.fr f156
        have e156 : mL M156 44 31 = 31 * mL M152 44 31 + (z152.toInt64) := by rw [h156, mL_sL, va_up_self]
        refine r_iconst (v := 0) dX9_digest_159 (by decide) ?_
        refine r_istore_n dX9_digest_160 (by decide) rfl ?_
        have hN := zero_of h135 c138
        exact r_lv (lvSc rfl (lvSc rfl lvS0)) (lp_rdg5 g x M σ δ C pg pn hpn h40 hpg z127 b127 hN 9 0 0 M156 (by omega) (by omega) rfl f156 (by rw [e156, l152, e147, l143, eE, b143, b152]; show _ = wiL (wiL (dgE σ δ z127) (stiR σ δ)) (whoR σ δ); rw [stiR, if_neg hN, whoR, if_neg hN]; rfl))
    · skip
      rw [g1, V.2.1, nI_40] at c105
      have hi8 : i < 4 * zS σ := lp_lt (n := 4 * zS σ) hv rfl c105 hi8 (by have := w.2.1; omega)
      refine r_aload_n dX9_digest_108 rfl ?_
      refine r_aload_n dX9_digest_109 rfl ?_
      refine r_getR flX9_25_9 rfl (hs1.lt (by decide)) (hs1.T 44 rfl) (hs1.R 44 15 rfl) dX9_digest_110 ?_
      refine r_iload_n dX9_digest_113 rfl ?_
      refine r_ial (hs1.T 50 rfl) (hs1.lt (by decide)) (ix_nI (by have := w.2.1; omega) (by decide)) dX9_digest_114 ?_
      refine r_i2l dX9_digest_115 ?_
      refine r_cV1v cvX9_254 (kX9_say g M1 hs1 ((mI M1 50 i).toInt64)) (hs1.lt (by decide)) (hs1.T 44 rfl) ⟨Nat.le_of_ble_eq_true rfl, Nat.le_of_ble_eq_true rfl⟩ (Nat.le_of_ble_eq_true rfl) ⟨Nat.le_of_ble_eq_true rfl, Nat.le_of_ble_eq_true rfl⟩ dX9_digest_116 (fun M116 h116 => ?_)
      have f116 : Fr [51, 52, 54, 55] [44] M M116 := by rw [h116]; exact hF.sL (by simp)
      have hs116 := hs.fr f116
      have e116 : mL M116 44 31 = 31 * mL M1 44 31 + ((mI M1 50 i).toInt64) := by rw [h116, mL_sL, va_up_self]
      refine r_iinc dX9_digest_119 rfl rfl rfl ?_
      refine r_goto 98 dX9_digest_122 (by decide) ?_
      exact r_lv (lvSc rfl (lvSc rfl lvS0)) (ih (i + 1) _ M116 (by omega) (by omega) (nI_inc rfl) f116 (by rw [e116, he, show mI M1 50 i = sivR σ δ (i / 4) (nI (i % 4)) from by have := siv_r C1 (j := i / 4) (c := i % 4) (by omega) (by omega); rw [show 4 * (i / 4) + i % 4 = i by omega] at this; exact this]; rfl))
set_option maxHeartbeats 4000000 in
set_option maxRecDepth 100000 in
theorem lp_rdg3 (g : Gx) (x : Cx) (M : Mm) (σ : Ab) (δ : Dy) (C : RA σ δ M) (pg : Rw) (pn : Nat) (hpn : mI M 44 1 = nI pn) (h40 : pn ≤ 40) (hpg : ∀ k, k < pn → mI M 45 k = pg k) : ∀ (n : Nat) (i : Nat) (v : Int32) (M1 : Mm), i ≤ 8 → 8 - i < n → v = nI i → Fr [51, 52, 54, 55] [44] M M1 → mL M1 44 31 = dgH σ δ (dgT σ δ 673 (zN σ)) i → Vj x g yX9_digest cX9_digest 3 (Option.some FieldType.long) rmX9_digest (Qm x g rmX9_digest.cells rmX9_digest.slots (pL fun r M' => Fr [51, 52, 54, 55] [44] M M' ∧ ∃ F, fewQ σ δ F ∧ r = digR σ δ F pg pn (mI M 44 6))) 0 0 M1 50 [(0, some (.ref (g.1 + 44))), (1, some (.int v))] [] := by
  intro n
  induction n with
  | zero => intro i v M1 hi8 hn hv hF he; omega
  | succ n ih =>
    intro i v M1 hi8 hn hv hF he
    obtain ⟨hs, w, dw, V, r1, r2, r3, r4, r5, r6, r7⟩ := id C
    have hs1 := hs.fr hF
    have C1 : RA σ δ M1 := C.fr hF (by simp)
    have g1 : mI M1 44 = mI M 44 := hF.2.1 44 (by decide)
    subst hv
    have hv : nI i = nI i := rfl
    refine r_iload_n dX9_digest_50 rfl ?_
    refine r_bipush (v := 8) dX9_digest_51 (by decide) ?_
    refine r_icmp_ge 96 dX9_digest_53 (by decide) (fun c53 => ?_) (fun c53 => ?_)
    · skip
      have ez := lp_ge (n := 8) hv rfl c53 hi8 (by decide)
      subst ez
      refine r_iconst (v := 0) dX9_digest_96 (by decide) ?_
      refine r_istore_n dX9_digest_97 (by decide) rfl ?_
      exact r_lv (lvSc rfl (lvSc rfl lvS0)) (lp_rdg4 g x M σ δ C pg pn hpn h40 hpg (4 * zS σ + 1) 0 0 M1 (by omega) (by omega) rfl hF he)
    · skip
      have hi8 : i < 8 := lp_lt (n := 8) hv rfl c53 hi8 (by decide)
      have q1 : mI M1 49 i = yl δ i := C1.2.2.2.2.2.1 i hi8
      refine r_aload_n dX9_digest_56 rfl ?_
      refine r_aload_n dX9_digest_57 rfl ?_
      refine r_getR flX9_22_9 rfl (hs1.lt (by decide)) (hs1.T 44 rfl) (hs1.R 44 14 rfl) dX9_digest_58 ?_
      refine r_iload_n dX9_digest_61 rfl ?_
      refine r_ial (hs1.T 49 rfl) (hs1.lt (by decide)) (ix_nI hi8 (by decide)) dX9_digest_62 ?_
      refine r_i2l dX9_digest_63 ?_
      refine r_cV1v cvX9_254 (kX9_say g M1 hs1 ((mI M1 49 i).toInt64)) (hs1.lt (by decide)) (hs1.T 44 rfl) ⟨Nat.le_of_ble_eq_true rfl, Nat.le_of_ble_eq_true rfl⟩ (Nat.le_of_ble_eq_true rfl) ⟨Nat.le_of_ble_eq_true rfl, Nat.le_of_ble_eq_true rfl⟩ dX9_digest_64 (fun M64 h64 => ?_)
      have f64 : Fr [51, 52, 54, 55] [44] M M64 := by rw [h64]; exact hF.sL (by simp)
      have hs64 := hs.fr f64
      have e64 : mL M64 44 31 = 31 * mL M1 44 31 + ((mI M1 49 i).toInt64) := by rw [h64, mL_sL, va_up_self]
      refine r_aload_n dX9_digest_67 rfl ?_
      refine r_aload_n dX9_digest_68 rfl ?_
      refine r_getI flX9_119_9 rfl (hs64.lt (by decide)) (hs64.T 44 rfl) dX9_digest_69 ?_
      refine r_iload_n dX9_digest_72 rfl ?_
      refine r_ishr dX9_digest_73 ?_
      refine r_iconst (v := 1) dX9_digest_74 (by decide) ?_
      refine r_iand dX9_digest_75 ?_
      refine r_i2l dX9_digest_76 ?_
      refine r_cV1v cvX9_254 (kX9_say g M64 hs64 ((mI M64 44 13 >>> (nI i &&& 31) &&& 1).toInt64)) (hs64.lt (by decide)) (hs64.T 44 rfl) ⟨Nat.le_of_ble_eq_true rfl, Nat.le_of_ble_eq_true rfl⟩ (Nat.le_of_ble_eq_true rfl) ⟨Nat.le_of_ble_eq_true rfl, Nat.le_of_ble_eq_true rfl⟩ dX9_digest_77 (fun M77 h77 => ?_)
      have f77 : Fr [51, 52, 54, 55] [44] M M77 := by rw [h77]; exact f64.sL (by simp)
      have hs77 := hs.fr f77
      have e77 : mL M77 44 31 = 31 * mL M64 44 31 + ((mI M64 44 13 >>> (nI i &&& 31) &&& 1).toInt64) := by rw [h77, mL_sL, va_up_self]
      refine r_aload_n dX9_digest_80 rfl ?_
      refine r_aload_n dX9_digest_81 rfl ?_
      refine r_iload_n dX9_digest_82 rfl ?_
      refine r_cV1i cvX9_127 (kX9_worthOf g M77 σ δ (C.fr f77 (by simp)) (nI i)) (hs77.lt (by decide)) (hs77.T 44 rfl) ⟨Nat.le_of_ble_eq_true rfl, Nat.le_of_ble_eq_true rfl⟩ (Nat.le_of_ble_eq_true rfl) ⟨Nat.le_of_ble_eq_true rfl, Nat.le_of_ble_eq_true rfl⟩ dX9_digest_83 (fun z83 M83 h83 => ?_)
      obtain ⟨e83, h83⟩ := h83
      replace e83 := e83.symm
      subst e83
      refine r_i2l dX9_digest_86 ?_
      refine r_cV1v cvX9_254 (kX9_say g M77 hs77 (z83.toInt64)) (hs77.lt (by decide)) (hs77.T 44 rfl) ⟨Nat.le_of_ble_eq_true rfl, Nat.le_of_ble_eq_true rfl⟩ (Nat.le_of_ble_eq_true rfl) ⟨Nat.le_of_ble_eq_true rfl, Nat.le_of_ble_eq_true rfl⟩ dX9_digest_87 (fun M87 h87 => ?_)
      have f87 : Fr [51, 52, 54, 55] [44] M M87 := by rw [h87]; exact f77.sL (by simp)
      have hs87 := hs.fr f87
      have e87 : mL M87 44 31 = 31 * mL M77 44 31 + (z83.toInt64) := by rw [h87, mL_sL, va_up_self]
      refine r_iinc dX9_digest_90 rfl rfl rfl ?_
      refine r_goto 50 dX9_digest_93 (by decide) ?_
      exact r_lv (lvSc rfl (lvSc rfl lvS0)) (ih (i + 1) _ M87 (by omega) (by omega) (nI_inc rfl) f87 (by rw [e87, e77, e64, he, q1, f64.2.1 44 (by decide), r3 i hi8, h83]; rfl))
set_option maxHeartbeats 4000000 in
set_option maxRecDepth 100000 in
theorem lp_rdg2 (g : Gx) (x : Cx) (M : Mm) (σ : Ab) (δ : Dy) (C : RA σ δ M) (pg : Rw) (pn : Nat) (hpn : mI M 44 1 = nI pn) (h40 : pn ≤ 40) (hpg : ∀ k, k < pn → mI M 45 k = pg k) (t : Nat) (ht : t < zN σ) (h0 : Int64) (K : ∀ (M2 : Mm) (v : Int32), Fr [51, 52, 54, 55] [44] M M2 → mL M2 44 31 = dgA σ δ t h0 6 → v = nI (t + 1) → Vj x g yX9_digest cX9_digest 3 (Option.some FieldType.long) rmX9_digest (Qm x g rmX9_digest.cells rmX9_digest.slots (pL fun r M' => Fr [51, 52, 54, 55] [44] M M' ∧ ∃ F, fewQ σ δ F ∧ r = digR σ δ F pg pn (mI M 44 6))) 0 0 M2 9 [(0, some (.ref (g.1 + 44))), (1, some (.int v))] []) : ∀ (n : Nat) (i : Nat) (v : Int32) (M1 : Mm), i ≤ 6 → 6 - i < n → v = nI i → Fr [51, 52, 54, 55] [44] M M1 → mL M1 44 31 = dgA σ δ t h0 i → Vj x g yX9_digest cX9_digest 3 (Option.some FieldType.long) rmX9_digest (Qm x g rmX9_digest.cells rmX9_digest.slots (pL fun r M' => Fr [51, 52, 54, 55] [44] M M' ∧ ∃ F, fewQ σ δ F ∧ r = digR σ δ F pg pn (mI M 44 6))) 0 0 M1 19 [(0, some (.ref (g.1 + 44))), (1, some (.int (nI t))), (2, some (.int v))] [] := by
  intro n
  induction n with
  | zero => intro i v M1 hi8 hn hv hF he; omega
  | succ n ih =>
    intro i v M1 hi8 hn hv hF he
    obtain ⟨hs, w, dw, V, r1, r2, r3, r4, r5, r6, r7⟩ := id C
    have hs1 := hs.fr hF
    have C1 : RA σ δ M1 := C.fr hF (by simp)
    have g1 : mI M1 44 = mI M 44 := hF.2.1 44 (by decide)
    subst hv
    have hv : nI i = nI i := rfl
    refine r_iload_n dX9_digest_19 rfl ?_
    refine r_bipush (v := 6) dX9_digest_20 (by decide) ?_
    refine r_icmp_ge 42 dX9_digest_22 (by decide) (fun c22 => ?_) (fun c22 => ?_)
    · skip
      have ez := lp_ge (n := 6) hv rfl c22 hi8 (by decide)
      subst ez
      refine r_iinc dX9_digest_42 rfl rfl rfl ?_
      refine r_goto 9 dX9_digest_45 (by decide) ?_
      exact r_lv (lvSc rfl (lvSc rfl lvS0)) (K M1 _ hF he (nI_inc rfl))
    · skip
      have hi8 : i < 6 := lp_lt (n := 6) hv rfl c22 hi8 (by decide)
      refine r_aload_n dX9_digest_25 rfl ?_
      refine r_aload_n dX9_digest_26 rfl ?_
      refine r_iload_n dX9_digest_27 rfl ?_
      refine r_iload_n dX9_digest_28 rfl ?_
      refine r_cV2i cvX9_105 (kX9_tell g M1 σ δ C1 t ht (nI i)) (hs1.lt (by decide)) (hs1.T 44 rfl) ⟨Nat.le_of_ble_eq_true rfl, Nat.le_of_ble_eq_true rfl⟩ (Nat.le_of_ble_eq_true rfl) ⟨Nat.le_of_ble_eq_true rfl, Nat.le_of_ble_eq_true rfl⟩ dX9_digest_29 (fun z29 M29 h29 => ?_)
      obtain ⟨e29, h29⟩ := h29
      replace e29 := e29.symm
      subst e29
      refine r_i2l dX9_digest_32 ?_
      refine r_cV1v cvX9_254 (kX9_say g M1 hs1 (z29.toInt64)) (hs1.lt (by decide)) (hs1.T 44 rfl) ⟨Nat.le_of_ble_eq_true rfl, Nat.le_of_ble_eq_true rfl⟩ (Nat.le_of_ble_eq_true rfl) ⟨Nat.le_of_ble_eq_true rfl, Nat.le_of_ble_eq_true rfl⟩ dX9_digest_33 (fun M33 h33 => ?_)
      have f33 : Fr [51, 52, 54, 55] [44] M M33 := by rw [h33]; exact hF.sL (by simp)
      have hs33 := hs.fr f33
      have e33 : mL M33 44 31 = 31 * mL M1 44 31 + (z29.toInt64) := by rw [h33, mL_sL, va_up_self]
      refine r_iinc dX9_digest_36 rfl rfl rfl ?_
      refine r_goto 19 dX9_digest_39 (by decide) ?_
      exact r_lv (lvSc rfl (lvSc rfl (lvSc rfl lvS0))) (ih (i + 1) _ M33 (by omega) (by omega) (nI_inc rfl) f33 (by rw [e33, he, h29, ← tell_ab w ht]; rfl))
set_option maxHeartbeats 4000000 in
set_option maxRecDepth 100000 in
theorem lp_rdg1 (g : Gx) (x : Cx) (M : Mm) (σ : Ab) (δ : Dy) (C : RA σ δ M) (pg : Rw) (pn : Nat) (hpn : mI M 44 1 = nI pn) (h40 : pn ≤ 40) (hpg : ∀ k, k < pn → mI M 45 k = pg k) : ∀ (n : Nat) (i : Nat) (v : Int32) (M1 : Mm), i ≤ zN σ → zN σ - i < n → v = nI i → Fr [51, 52, 54, 55] [44] M M1 → mL M1 44 31 = dgT σ δ 673 i → Vj x g yX9_digest cX9_digest 3 (Option.some FieldType.long) rmX9_digest (Qm x g rmX9_digest.cells rmX9_digest.slots (pL fun r M' => Fr [51, 52, 54, 55] [44] M M' ∧ ∃ F, fewQ σ δ F ∧ r = digR σ δ F pg pn (mI M 44 6))) 0 0 M1 9 [(0, some (.ref (g.1 + 44))), (1, some (.int v))] [] := by
  intro n
  induction n with
  | zero => intro i v M1 hiN hn hv hF he; omega
  | succ n ih =>
    intro i v M1 hiN hn hv hF he
    obtain ⟨hs, w, dw, V, r1, r2, r3, r4, r5, r6, r7⟩ := id C
    have hs1 := hs.fr hF
    have C1 : RA σ δ M1 := C.fr hF (by simp)
    have g1 : mI M1 44 = mI M 44 := hF.2.1 44 (by decide)
    subst hv
    have hv : nI i = nI i := rfl
    refine r_iload_n dX9_digest_9 rfl ?_
    refine r_aload_n dX9_digest_10 rfl ?_
    refine r_getI flX9_91_9 rfl (hs1.lt (by decide)) (hs1.T 44 rfl) dX9_digest_11 ?_
    refine r_icmp_ge 48 dX9_digest_14 (by decide) (fun c14 => ?_) (fun c14 => ?_)
    · skip
      rw [g1] at c14
      have ez := lp_ge (n := zN σ) hv V.1 c14 hiN (by have := w.1; omega)
      subst ez
      refine r_iconst (v := 0) dX9_digest_48 (by decide) ?_
      refine r_istore_n dX9_digest_49 (by decide) rfl ?_
      exact r_lv (lvSc rfl (lvSc rfl lvS0)) (lp_rdg3 g x M σ δ C pg pn hpn h40 hpg 9 0 0 M1 (by omega) (by omega) rfl hF he)
    · skip
      rw [g1] at c14
      have hi : i < zN σ := lp_lt (n := zN σ) hv V.1 c14 hiN (by have := w.1; omega)
      refine r_iconst (v := 0) dX9_digest_17 (by decide) ?_
      refine r_istore_n dX9_digest_18 (by decide) rfl ?_
      exact r_lv (lvSc rfl (lvSc rfl (lvSc rfl lvS0))) (lp_rdg2 g x M σ δ C pg pn hpn h40 hpg i hi (dgT σ δ 673 i) (fun M2 v a b c => ih (i + 1) v M2 (by omega) (by omega) c a b) 7 0 0 M1 (by omega) (by omega) rfl hF he)
set_option maxHeartbeats 4000000 in
set_option maxRecDepth 100000 in
theorem kX9_digest (g : Gx) (M : Mm) (σ : Ab) (δ : Dy) (C : RA σ δ M) (pg : Rw) (pn : Nat) (hpn : mI M 44 1 = nI pn) (h40 : pn ≤ 40) (hpg : ∀ k, k < pn → mI M 45 k = pg k) : Ct g yX9_digest cX9_digest 3 (Option.some FieldType.long) rmX9_digest [.ref (g.1 + 44)] M (pL fun r M' => Fr [51, 52, 54, 55] [44] M M' ∧ ∃ F, fewQ σ δ F ∧ r = digR σ δ F pg pn (mI M 44 6)) := by
  refine Ct.of rfl (Nat.le_of_ble_eq_true rfl) (fun x => ?_)
  refine r_aload_n dX9_digest_0 rfl ?_
  refine r_ldc2_w (v := 673) dX9_digest_1 tw983 ?_
  refine r_putL fpX9_248_9 rfl (C.1.lt (by decide)) (C.1.T 44 rfl) dX9_digest_4 ?_
  refine r_iconst (v := 0) dX9_digest_7 (by decide) ?_
  refine r_istore_n dX9_digest_8 (by decide) rfl ?_
  exact r_lv (lvSc rfl (lvSc rfl lvS0)) (lp_rdg1 g x M σ δ C pg pn hpn h40 hpg (zN σ + 1) 0 0 _ (by omega) (by omega) rfl ((Fr.rf _ _ _).sL (by simp)) (by rw [mL_sL, va_up_self]; rfl))
