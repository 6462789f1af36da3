/-! the reference: chances -/
def rmX9_term : Room := { frames := 0, cells := 0, slots := 0, locals := 0 }
set_option maxHeartbeats 4000000 in
set_option maxRecDepth 100000 in
theorem lp_rterm (g : Gx) (x : Cx) (M : Mm) (up lo : Int64) (p : Int32) (hlo : ¬ lo = 0) : ∀ (n : Nat) (k : Nat) (b a : Int64), k < n → euP k a b = euP 200 lo up → Vj x g yX9_term cX9_term 11 (Option.some FieldType.long) rmX9_term (Qm x g rmX9_term.cells rmX9_term.slots (pL fun r M' => M' = M ∧ r = (if p = 0 then up else lo) / (euP 200 lo up).1)) 0 0 M 6 [(0, some (.long up)), (2, some (.long lo)), (4, some (.int p)), (5, some (.long b)), (7, some (.long a))] [] := by
  intro n
  induction n with
  | zero => intro k b a hk eQ; omega
  | succ n ih =>
    intro k b a hk eQ
    refine r_lload dX9_term_6 rfl ?_
    refine r_lconst (v := 0) dX9_term_8 (by decide) ?_
    refine r_lcmp dX9_term_9 ?_
    refine r_if_eq 31 dX9_term_10 (by decide) (fun c10 => ?_) (fun c10 => ?_)
    · skip
      rw [lgc0] at c10
      subst c10
      rw [euP_0] at eQ
      have ea : a = (euP 200 lo up).1 := by rw [← eQ]
      have hne : ¬ a = 0 := by rw [ea]; exact euP_ne 200 _ _ hlo
      refine r_iload dX9_term_31 rfl ?_
      refine r_if_ne 43 dX9_term_33 (by decide) (fun c33 => ?_) (fun c33 => ?_)
      · skip
        refine r_lload_n dX9_term_43 rfl ?_
        refine r_lload dX9_term_44 rfl ?_
        refine r_ldiv dX9_term_46 hne ?_
        exact r_lret dX9_term_47 ⟨_, rfl, rfl, by rw [if_neg c33, ea]⟩
      · skip
        refine r_lload_n dX9_term_36 rfl ?_
        refine r_lload dX9_term_37 rfl ?_
        refine r_ldiv dX9_term_39 hne ?_
        refine r_goto 47 dX9_term_40 (by decide) ?_
        exact r_lret dX9_term_47 ⟨_, rfl, rfl, by rw [if_pos c33, ea]⟩
    · skip
      rw [lgc0] at c10
      obtain ⟨k2, ek⟩ : ∃ k2, k = k2 + 1 := by
        cases k with
        | zero => exact absurd (by have z := euP_200 lo up; rw [← eQ] at z; exact z) c10
        | succ k => exact ⟨k, rfl⟩
      subst ek
      rw [euP_s c10] at eQ
      refine r_lload dX9_term_13 rfl ?_
      refine r_lload dX9_term_15 rfl ?_
      refine r_lrem dX9_term_17 c10 ?_
      refine r_lstore dX9_term_18 (by decide) rfl ?_
      refine r_lload dX9_term_20 rfl ?_
      refine r_lstore dX9_term_22 (by decide) rfl ?_
      refine r_lload dX9_term_24 rfl ?_
      refine r_lstore dX9_term_26 (by decide) rfl ?_
      refine r_goto 6 dX9_term_28 (by decide) ?_
      exact r_lv (lvSc rfl (lvSc rfl (lvSc rfl (lvSc rfl (lvSc rfl lvS0))))) (ih k2 _ _ (by omega) eQ)
set_option maxHeartbeats 4000000 in
set_option maxRecDepth 100000 in
theorem kX9_term (g : Gx) (M : Mm) (up lo : Int64) (p : Int32) (hlo : ¬ lo = 0) : Ct g yX9_term cX9_term 11 (Option.some FieldType.long) rmX9_term [.long up, .long lo, .int p] M (pL fun r M' => M' = M ∧ r = (if p = 0 then up else lo) / (euP 200 lo up).1) := by
  refine Ct.of rfl (Nat.le_of_ble_eq_true rfl) (fun x => ?_)
  refine r_lload_n dX9_term_0 rfl ?_
  refine r_lstore dX9_term_1 (by decide) rfl ?_
  refine r_lload_n dX9_term_3 rfl ?_
  refine r_lstore dX9_term_4 (by decide) rfl ?_
  exact r_lv (lvSc rfl (lvSc rfl (lvSc rfl (lvSc rfl (lvSc rfl lvS0))))) (lp_rterm g x M up lo p hlo 201 200 _ _ (by omega) rfl)
def rmX9_chance : Room := { frames := 2, cells := 0, slots := 0, locals := 46 }
set_option maxHeartbeats 4000000 in
set_option maxRecDepth 100000 in
theorem lp_rchL (g : Gx) (x : Cx) (P : Int64 → Mm → Prop) (M : Mm) (σ : Ab) (δ : Dy) (C : RA σ δ M) (j mm l : Nat) (hj : j < zS σ) (hmm : mm ≤ 2) (hl : l < 8) (p : Int32) (mi : Nat) (wl : Int64) (M1 : Mm) (hF : Fr [51, 52] [53] M M1) (lo : Rw) (D : RD M1 σ (yd δ) lo (yp δ)) (hlo : ∀ h, h < 8 → 0 ≤ lo h) (K : ∀ (M2 : Mm) (v : Int32), Fr [51, 52] [53] M M2 → RD M2 σ (yd δ) (lapF lo) (yp δ) → mL M2 53 = mL M1 53 → v = nI (mi + 1) → Vj x g yX9_chance cX9_chance 13 (Option.some FieldType.long) rmX9_chance (Qm x g rmX9_chance.cells rmX9_chance.slots (pL P)) 0 0 M2 106 [(0, some (.ref (g.1 + 44))), (1, some (.int (nI j))), (2, some (.int (nI mm))), (3, some (.int (nI l))), (4, some (.int p)), (5, some (.long wl)), (7, some (.int v))] []) : ∀ (n : Nat) (i : Nat) (v : Int32) (M2 : Mm), i ≤ 8 → 8 - i < n → v = nI i → Fr [52] [] M1 M2 → (∀ h, h < i → mI M2 52 h = if 0 < lo h then lo h - 1 else 0) → (∀ h, i ≤ h → h < 8 → mI M2 52 h = lo h) → Vj x g yX9_chance cX9_chance 13 (Option.some FieldType.long) rmX9_chance (Qm x g rmX9_chance.cells rmX9_chance.slots (pL P)) 0 0 M2 247 [(0, some (.ref (g.1 + 44))), (1, some (.int (nI j))), (2, some (.int (nI mm))), (3, some (.int (nI l))), (4, some (.int p)), (5, some (.long wl)), (7, some (.int (nI mi))), (8, some (.int v))] [] := by
  intro n
  induction n with
  | zero => intro i v M2 hi8 hn hv hF2 ea eb; omega
  | succ n ih =>
    intro i v M2 hi8 hn hv hF2 ea eb
    have hs1 := (C.1.fr hF).fr hF2
    subst hv
    have hv : nI i = nI i := rfl
    refine r_iload dX9_chance_247 rfl ?_
    refine r_bipush (v := 8) dX9_chance_249 (by decide) ?_
    refine r_icmp_ge 285 dX9_chance_251 (by decide) (fun c251 => ?_) (fun c251 => ?_)
    · skip
      have ez := lp_ge (n := 8) hv rfl c251 hi8 (by decide)
      subst ez
      refine r_iinc dX9_chance_285 rfl rfl rfl ?_
      refine r_goto 106 dX9_chance_288 (by decide) ?_
      exact r_lv (lvSc rfl (lvSc rfl (lvSc rfl (lvSc rfl (lvSc rfl (lvSc rfl (lvSc rfl lvS0))))))) (K M2 _ (hF.tr (hF2.mono (by simp) (by simp))) ⟨fun s hs => by rw [hF2.2.1 51 (by decide)]; exact D.1 s hs, fun h h8 => by rw [ea h h8, lapF, if_pos h8], fun h h8 => by rw [hF2.2.1 44 (by decide)]; exact D.2.2 h h8⟩ (hF2.2.2 53 (by decide)) (nI_inc rfl))
    · skip
      have hi8 : i < 8 := lp_lt (n := 8) hv rfl c251 hi8 (by decide)
      have hv1 : mI M2 52 i = lo i := eb i (by omega) hi8
      refine r_aload_n dX9_chance_254 rfl ?_
      refine r_getR flX9_31_9 rfl (hs1.lt (by decide)) (hs1.T 44 rfl) (hs1.R 44 17 rfl) dX9_chance_255 ?_
      refine r_iload dX9_chance_258 rfl ?_
      refine r_dup2 dX9_chance_260 rfl rfl ?_
      refine r_ial (hs1.T 52 rfl) (hs1.lt (by decide)) (ix_nI hi8 (by decide)) dX9_chance_261 ?_
      refine r_dia (P := fun u => u = (if 0 < mI M2 52 i then (1 : Int32) else 0)) 277 (fun u hu => ?_) (fun hJ277 => ?_)
      · skip
        refine r_isub dX9_chance_277 ?_
        refine r_ias (hs1.T 52 rfl) (hs1.lt (by decide)) (ix_nI hi8 (by decide)) dX9_chance_278 ?_
        refine r_iinc dX9_chance_279 rfl rfl rfl ?_
        refine r_goto 247 dX9_chance_282 (by decide) ?_
        exact r_lv (lvSc rfl (lvSc rfl (lvSc rfl (lvSc rfl (lvSc rfl (lvSc rfl (lvSc rfl (lvSc rfl lvS0)))))))) (ih (i + 1) _ _ (by omega) (by omega) (nI_inc rfl) (hF2.sI (by simp)) (fun h hh => by
          rw [mI_sI, va_up_if]
          split
          · next e => rw [lap_u (by rw [hv1]; exact hlo i hi8) hu, hv1, e]
          · exact ea h (by omega)) (fun h hh h8 => by rw [mI_sI, va_up_ne _ _ (by omega)]; exact eb h (by omega) h8))
      · skip
        refine r_aload_n dX9_chance_262 rfl ?_
        refine r_getR flX9_31_9 rfl (hs1.lt (by decide)) (hs1.T 44 rfl) (hs1.R 44 17 rfl) dX9_chance_263 ?_
        refine r_iload dX9_chance_266 rfl ?_
        refine r_ial (hs1.T 52 rfl) (hs1.lt (by decide)) (ix_nI hi8 (by decide)) dX9_chance_268 ?_
        refine r_if_le 276 dX9_chance_269 (by decide) (fun c269 => ?_) (fun c269 => ?_)
        · skip
          have hfin : (0 : Int32) = (if 0 < mI M2 52 i then (1 : Int32) else 0) := by rw [if_neg (Int32.not_lt.mpr c269)]
          refine r_iconst (v := 0) dX9_chance_276 (by decide) ?_
          exact hJ277 _ hfin
        · skip
          have hfin : (1 : Int32) = (if 0 < mI M2 52 i then (1 : Int32) else 0) := by rw [if_pos (Int32.not_le.mp c269)]
          refine r_iconst (v := 1) dX9_chance_272 (by decide) ?_
          refine r_goto 277 dX9_chance_273 (by decide) ?_
          exact hJ277 _ hfin
set_option maxHeartbeats 4000000 in
set_option maxRecDepth 100000 in
theorem lp_rchT (g : Gx) (x : Cx) (P : Int64 → Mm → Prop) (M : Mm) (σ : Ab) (δ : Dy) (C : RA σ δ M) (j mm l : Nat) (hj : j < zS σ) (hmm : mm ≤ 2) (hl : l < 8) (p : Int32) (mi t : Nat) (wl go : Int64) (fr : Int32) (M1 : Mm) (hF : Fr [51, 52] [53] M M1) (K : ∀ (M2 : Mm), Fr [] [53] M1 M2 → (∀ h, h < 8 → mL M2 53 h = mL M1 53 h * 10) → Vj x g yX9_chance cX9_chance 13 (Option.some FieldType.long) rmX9_chance (Qm x g rmX9_chance.cells rmX9_chance.slots (pL P)) 0 0 M2 198 [(0, some (.ref (g.1 + 44))), (1, some (.int (nI j))), (2, some (.int (nI mm))), (3, some (.int (nI l))), (4, some (.int p)), (5, some (.long wl)), (7, some (.int (nI mi))), (8, some (.int (nI t))), (9, some (.int fr)), (10, some (.long go))] []) : ∀ (n : Nat) (i : Nat) (v : Int32) (M2 : Mm), i ≤ 8 → 8 - i < n → v = nI i → Fr [] [53] M1 M2 → (∀ h, h < i → mL M2 53 h = mL M1 53 h * 10) → (∀ h, i ≤ h → mL M2 53 h = mL M1 53 h) → Vj x g yX9_chance cX9_chance 13 (Option.some FieldType.long) rmX9_chance (Qm x g rmX9_chance.cells rmX9_chance.slots (pL P)) 0 0 M2 172 [(0, some (.ref (g.1 + 44))), (1, some (.int (nI j))), (2, some (.int (nI mm))), (3, some (.int (nI l))), (4, some (.int p)), (5, some (.long wl)), (7, some (.int (nI mi))), (8, some (.int (nI t))), (9, some (.int fr)), (10, some (.long go)), (12, some (.int v))] [] := by
  intro n
  induction n with
  | zero => intro i v M2 hi8 hn hv hF2 ea eb; omega
  | succ n ih =>
    intro i v M2 hi8 hn hv hF2 ea eb
    have hs1 := (C.1.fr hF).fr hF2
    subst hv
    have hv : nI i = nI i := rfl
    refine r_iload dX9_chance_172 rfl ?_
    refine r_bipush (v := 8) dX9_chance_174 (by decide) ?_
    refine r_icmp_ge 198 dX9_chance_176 (by decide) (fun c176 => ?_) (fun c176 => ?_)
    · skip
      have ez := lp_ge (n := 8) hv rfl c176 hi8 (by decide)
      subst ez
      exact r_lv (lvSc rfl (lvSc rfl (lvSc rfl (lvSc rfl (lvSc rfl (lvSc rfl (lvSc rfl (lvSc rfl (lvSc rfl (lvSc rfl lvS0)))))))))) (K M2 hF2 ea)
    · skip
      have hi8 : i < 8 := lp_lt (n := 8) hv rfl c176 hi8 (by decide)
      have hv1 : mL M2 53 i = mL M1 53 i := eb i (by omega)
      refine r_aload_n dX9_chance_179 rfl ?_
      refine r_getR flX9_34_9 rfl (hs1.lt (by decide)) (hs1.T 44 rfl) (hs1.R 44 18 rfl) dX9_chance_180 ?_
      refine r_iload dX9_chance_183 rfl ?_
      refine r_dup2 dX9_chance_185 rfl rfl ?_
      refine r_lal (hs1.T 53 rfl) (hs1.lt (by decide)) (ix_nI hi8 (by decide)) dX9_chance_186 ?_
      refine r_ldc2_w (v := 10) dX9_chance_187 tw799 ?_
      refine r_lmul dX9_chance_190 ?_
      refine r_las (hs1.T 53 rfl) (hs1.lt (by decide)) (ix_nI hi8 (by decide)) dX9_chance_191 ?_
      refine r_iinc dX9_chance_192 rfl rfl rfl ?_
      refine r_goto 172 dX9_chance_195 (by decide) ?_
      exact r_lv (lvSc rfl (lvSc rfl (lvSc rfl (lvSc rfl (lvSc rfl (lvSc rfl (lvSc rfl (lvSc rfl (lvSc rfl (lvSc rfl (lvSc rfl lvS0))))))))))) (ih (i + 1) _ _ (by omega) (by omega) (nI_inc rfl) (hF2.sL (by simp)) (fun h hh => by
        rw [mL_sL, va_up_if]
        split
        · next e => rw [hv1, e]
        · exact ea h (by omega)) (fun h hh => by rw [mL_sL, va_up_ne _ _ (by omega)]; exact eb h (by omega)))
theorem spr_u {od mL1 : Lw} {f t : Nat} {mv : Int64} (hf : f < 8) (h : ∀ q, q < 8 → mL1 q = od q * 10) : ∀ q, q < 8 → va_up (va_up mL1 f (mL1 f - mv)) t (va_up mL1 f (mL1 f - mv) t + mv) q = sprL od f t mv q := by
  intro q hq
  have e : ∀ q, q < 8 → mL1 q = tnL od q := fun q hq => by rw [h q hq, tnL, if_pos hq]
  unfold sprL
  simp only [va_up_if, e f hf]
  by_cases c : q = t
  · subst c; simp [e q hq]
  · simp [c, e q hq]
set_option maxHeartbeats 4000000 in
set_option maxRecDepth 100000 in
theorem bk_rch (g : Gx) (x : Cx) (P : Int64 → Mm → Prop) (M : Mm) (σ : Ab) (δ : Dy) (C : RA σ δ M) (j mm l : Nat) (hj : j < zS σ) (hmm : mm ≤ 2) (hl : l < 8) (p : Int32) (mi t : Nat) (ht : t < zN σ) (wl : Int64) (lo : Rw) (od : Lw) (M1 : Mm) (hF : Fr [51, 52] [53] M M1) (D : RD M1 σ (yd δ) lo (yp δ)) (go : Int64) (ego : go = mvF σ (yq δ) (yd δ) lo (yt δ) t (spI σ (yq δ) (yd δ) lo (yt δ) od t)) (e10 : ∀ q, q < 8 → mL M1 53 q = spI σ (yq δ) (yd δ) lo (yt δ) od t q * 10) (K : ∀ (M2 : Mm) (v : Int32) (wl2 : Int64), Fr [51, 52] [53] M M2 → RD M2 σ (yd δ) lo (yp δ) → (∀ h, h < 8 → mL M2 53 h = spI σ (yq δ) (yd δ) lo (yt δ) od (t + 1) h) → v = nI (t + 1) → wl2 = wl * 10 → Vj x g yX9_chance cX9_chance 13 (Option.some FieldType.long) rmX9_chance (Qm x g rmX9_chance.cells rmX9_chance.slots (pL P)) 0 0 M2 115 [(0, some (.ref (g.1 + 44))), (1, some (.int (nI j))), (2, some (.int (nI mm))), (3, some (.int (nI l))), (4, some (.int p)), (5, some (.long wl2)), (7, some (.int (nI mi))), (8, some (.int v))] []) : Vj x g yX9_chance cX9_chance 13 (Option.some FieldType.long) rmX9_chance (Qm x g rmX9_chance.cells rmX9_chance.slots (pL P)) 0 0 M1 198 [(0, some (.ref (g.1 + 44))), (1, some (.int (nI j))), (2, some (.int (nI mm))), (3, some (.int (nI l))), (4, some (.int p)), (5, some (.long wl)), (7, some (.int (nI mi))), (8, some (.int (nI t))), (9, some (.int (frF σ (yq δ t) t))), (10, some (.long go))] [] := by
  obtain ⟨hs, w, dw, V, r1, r2, r3, r4, r5, r6, r7⟩ := id C
  have hs1 := hs.fr hF
  have C1 : RA σ δ M1 := C.fr hF (by simp)
  have V1 := C1.2.2.2.1
  have g1 : mI M1 44 = mI M 44 := hF.2.1 44 (by decide)
  obtain ⟨jf, hjf, ejf⟩ := frF_8 w ht (yq δ t)
  obtain ⟨jt, hjt, ejt⟩ := toF_8 w ht (yq δ t)
  have cf : (frF σ (yq δ t) t).toNatClampNeg = jf := by rw [ejf]; exact nI_clamp (by omega)
  have ct : (toF σ (yq δ t) t).toNatClampNeg = jt := by rw [ejt]; exact nI_clamp (by omega)
  refine r_aload_n dX9_chance_198 rfl ?_
  refine r_getR flX9_34_9 rfl (hs1.lt (by decide)) (hs1.T 44 rfl) (hs1.R 44 18 rfl) dX9_chance_199 ?_
  refine r_iload dX9_chance_202 rfl ?_
  refine r_dup2 dX9_chance_204 rfl rfl ?_
  refine r_lal (hs1.T 53 rfl) (hs1.lt (by decide)) (ix_of ejf hjf (by decide)) dX9_chance_205 ?_
  refine r_lload dX9_chance_206 rfl ?_
  refine r_lsub dX9_chance_208 ?_
  refine r_las (hs1.T 53 rfl) (hs1.lt (by decide)) (ix_of ejf hjf (by decide)) dX9_chance_209 ?_
  refine r_aload_n dX9_chance_210 rfl ?_
  refine r_getR flX9_34_9 rfl (hs1.lt (by decide)) (hs1.T 44 rfl) (hs1.R 44 18 rfl) dX9_chance_211 ?_
  refine r_aload_n dX9_chance_214 rfl ?_
  refine r_iload dX9_chance_215 rfl ?_
  refine r_aload_n dX9_chance_217 rfl ?_
  refine r_getI flX9_94_9 rfl (hs1.lt (by decide)) (hs1.T 44 rfl) dX9_chance_218 ?_
  refine r_cV2i cvX9_141 (kX9_toOf g (sL M1 53 jf (mL M1 53 jf - go)) hs1 σ w V1 (yq δ) (mI M1 44 8) (fun t ht => by rw [g1]; exact r4 t ht) t ht) (hs1.lt (by decide)) (hs1.T 44 rfl) ⟨Nat.le_of_ble_eq_true rfl, Nat.le_of_ble_eq_true rfl⟩ (Nat.le_of_ble_eq_true rfl) ⟨Nat.le_of_ble_eq_true rfl, Nat.le_of_ble_eq_true rfl⟩ dX9_chance_221 (fun z221 M221 h221 => ?_)
  obtain ⟨e221, h221⟩ := h221
  replace e221 := e221.symm
  subst e221
  subst h221
  refine r_dup2 dX9_chance_224 rfl rfl ?_
  refine r_lal (hs1.T 53 rfl) (hs1.lt (by decide)) (ix_of ejt hjt (by decide)) dX9_chance_225 ?_
  refine r_lload dX9_chance_226 rfl ?_
  refine r_ladd dX9_chance_228 ?_
  refine r_las (hs1.T 53 rfl) (hs1.lt (by decide)) (ix_of ejt hjt (by decide)) dX9_chance_229 ?_
  refine r_lload dX9_chance_230 rfl ?_
  refine r_ldc2_w (v := 10) dX9_chance_232 tw799 ?_
  refine r_lmul dX9_chance_235 ?_
  refine r_lstore dX9_chance_236 (by decide) rfl ?_
  refine r_iinc dX9_chance_238 rfl rfl rfl ?_
  refine r_goto 115 dX9_chance_241 (by decide) ?_
  exact r_lv (lvSc rfl (lvSc rfl (lvSc rfl (lvSc rfl (lvSc rfl (lvSc rfl (lvSc rfl (lvSc rfl lvS0)))))))) (K _ _ _ ((hF.sL (by simp)).sL (by simp)) D (fun h h8 => by rw [mL_sL, mL_sL, spI, sprF, cf, ct, ego]; exact spr_u hjf e10 h h8) (nI_inc rfl) rfl)
set_option maxHeartbeats 4000000 in
set_option maxRecDepth 100000 in
theorem bk_rch2 (g : Gx) (x : Cx) (P : Int64 → Mm → Prop) (M : Mm) (σ : Ab) (δ : Dy) (C : RA σ δ M) (j mm l : Nat) (hj : j < zS σ) (hmm : mm ≤ 2) (hl : l < 8) (p : Int32) (mi t : Nat) (ht : t < zN σ) (wl : Int64) (lo : Rw) (od : Lw) (M1 : Mm) (hF : Fr [51, 52] [53] M M1) (D : RD M1 σ (yd δ) lo (yp δ)) (hlo : ∀ h, h < 8 → 0 ≤ lo h) (eo : ∀ q, q < 8 → mL M1 53 q = spI σ (yq δ) (yd δ) lo (yt δ) od t q) (K : ∀ (M2 : Mm) (v : Int32) (wl2 : Int64), Fr [51, 52] [53] M M2 → RD M2 σ (yd δ) lo (yp δ) → (∀ h, h < 8 → mL M2 53 h = spI σ (yq δ) (yd δ) lo (yt δ) od (t + 1) h) → v = nI (t + 1) → wl2 = wl * 10 → Vj x g yX9_chance cX9_chance 13 (Option.some FieldType.long) rmX9_chance (Qm x g rmX9_chance.cells rmX9_chance.slots (pL P)) 0 0 M2 115 [(0, some (.ref (g.1 + 44))), (1, some (.int (nI j))), (2, some (.int (nI mm))), (3, some (.int (nI l))), (4, some (.int p)), (5, some (.long wl2)), (7, some (.int (nI mi))), (8, some (.int v))] []) : Vj x g yX9_chance cX9_chance 13 (Option.some FieldType.long) rmX9_chance (Qm x g rmX9_chance.cells rmX9_chance.slots (pL P)) 0 0 M1 124 [(0, some (.ref (g.1 + 44))), (1, some (.int (nI j))), (2, some (.int (nI mm))), (3, some (.int (nI l))), (4, some (.int p)), (5, some (.long wl)), (7, some (.int (nI mi))), (8, some (.int (nI t)))] [] := by
  obtain ⟨hs, w, dw, V, r1, r2, r3, r4, r5, r6, r7⟩ := id C
  have hs1 := hs.fr hF
  have C1 : RA σ δ M1 := C.fr hF (by simp)
  have V1 := C1.2.2.2.1
  have g1 : mI M1 44 = mI M 44 := hF.2.1 44 (by decide)
  obtain ⟨jf, hjf, ejf⟩ := frF_8 w ht (yq δ t)
  obtain ⟨jt, hjt, ejt⟩ := toF_8 w ht (yq δ t)
  have cf : (frF σ (yq δ t) t).toNatClampNeg = jf := by rw [ejf]; exact nI_clamp (by omega)
  have ct : (toF σ (yq δ t) t).toNatClampNeg = jt := by rw [ejt]; exact nI_clamp (by omega)
  refine r_aload_n dX9_chance_124 rfl ?_
  refine r_iload dX9_chance_125 rfl ?_
  refine r_aload_n dX9_chance_127 rfl ?_
  refine r_getI flX9_94_9 rfl (hs1.lt (by decide)) (hs1.T 44 rfl) dX9_chance_128 ?_
  refine r_cV2i cvX9_130 (kX9_fromOf g M1 hs1 σ w V1 (yq δ) (mI M1 44 8) (fun t ht => by rw [g1]; exact r4 t ht) t ht) (hs1.lt (by decide)) (hs1.T 44 rfl) ⟨Nat.le_of_ble_eq_true rfl, Nat.le_of_ble_eq_true rfl⟩ (Nat.le_of_ble_eq_true rfl) ⟨Nat.le_of_ble_eq_true rfl, Nat.le_of_ble_eq_true rfl⟩ dX9_chance_131 (fun z131 M131 h131 => ?_)
  obtain ⟨e131, h131⟩ := h131
  replace e131 := e131.symm
  subst e131
  subst h131
  refine r_istore dX9_chance_134 (by decide) rfl ?_
  refine r_diaL (P := fun v => v = mvF σ (yq δ) (yd δ) lo (yt δ) t (spI σ (yq δ) (yd δ) lo (yt δ) od t)) 167 (fun go hgo => ?_) (fun hJ167 => ?_)
  · skip
    refine r_lstore dX9_chance_167 (by decide) rfl ?_
    refine r_iconst (v := 0) dX9_chance_169 (by decide) ?_
    refine r_istore dX9_chance_170 (by decide) rfl ?_
    exact r_lv (lvSc rfl (lvSc rfl (lvSc rfl (lvSc rfl (lvSc rfl (lvSc rfl (lvSc rfl (lvSc rfl (lvSc rfl (lvSc rfl (lvSc rfl lvS0))))))))))) (lp_rchT g x P M σ δ C j mm l hj hmm hl p mi t wl go (frF σ (yq δ t) t) M1 hF (fun M2 f e => bk_rch g x P M σ δ C j mm l hj hmm hl p mi t ht wl lo od M2 (hF.tr (f.mono (by simp) (by simp))) ⟨fun s hs => by rw [f.2.1 51 (by decide)]; exact D.1 s hs, fun s hs => by rw [f.2.1 52 (by decide)]; exact D.2.1 s hs, fun s hs => by rw [f.2.1 44 (by decide)]; exact D.2.2 s hs⟩ go hgo (fun q hq => by rw [e q hq, eo q hq]) K) 9 0 0 M1 (by omega) (by omega) rfl (Fr.rf _ _ _) (fun h hh => by omega) (fun h hh => rfl))
  · skip
    refine r_aload_n dX9_chance_136 rfl ?_
    refine r_iload dX9_chance_137 rfl ?_
    refine r_iload dX9_chance_139 rfl ?_
    refine r_cV2i cvX9_133 ((show Ct _ _ _ _ _ _ [.ref (g.1 + 44), .int (nI t), .int (frF σ (yq δ t) t)] _ _ from by rw [ejf]; exact kX9_mayTake g M1 hs1 σ w V1 (yd δ) lo (yp δ) D hlo t ht jf hjf)) (hs1.lt (by decide)) (hs1.T 44 rfl) ⟨Nat.le_of_ble_eq_true rfl, Nat.le_of_ble_eq_true rfl⟩ (Nat.le_of_ble_eq_true rfl) ⟨Nat.le_of_ble_eq_true rfl, Nat.le_of_ble_eq_true rfl⟩ dX9_chance_141 (fun z141 M141 h141 => ?_)
    obtain ⟨e141, h141⟩ := h141
    replace e141 := e141.symm
    subst e141
    rw [← cf] at h141
    refine r_if_eq 166 dX9_chance_144 (by decide) (fun c144 => ?_) (fun c144 => ?_)
    · skip
      have hfin : (0 : Int64) = mvF σ (yq δ) (yd δ) lo (yt δ) t (spI σ (yq δ) (yd δ) lo (yt δ) od t) := (mvF_0 (h141.resolve_left (fun z => absurd (z.1.symm.trans c144) (by decide))).2).symm
      refine r_lconst (v := 0) dX9_chance_166 (by decide) ?_
      exact hJ167 _ hfin
    · skip
      have hfin : mL M1 53 jf * (mI M1 48 t).toInt64 = mvF σ (yq δ) (yd δ) lo (yt δ) t (spI σ (yq δ) (yd δ) lo (yt δ) od t) := by
        rw [mvF_1 (h141.resolve_right (fun z => c144 z.1)).2, cf, eo jf hjf, C1.2.2.2.2.2.2.2.2.1 t ht]
      refine r_aload_n dX9_chance_147 rfl ?_
      refine r_getR flX9_34_9 rfl (hs1.lt (by decide)) (hs1.T 44 rfl) (hs1.R 44 18 rfl) dX9_chance_148 ?_
      refine r_iload dX9_chance_151 rfl ?_
      refine r_lal (hs1.T 53 rfl) (hs1.lt (by decide)) (ix_of ejf hjf (by decide)) dX9_chance_153 ?_
      refine r_aload_n dX9_chance_154 rfl ?_
      refine r_getR flX9_19_9 rfl (hs1.lt (by decide)) (hs1.T 44 rfl) (hs1.R 44 9 rfl) dX9_chance_155 ?_
      refine r_iload dX9_chance_158 rfl ?_
      refine r_ial (hs1.T 48 rfl) (hs1.lt (by decide)) (ix_nI (by have := w.1; omega) (by decide)) dX9_chance_160 ?_
      refine r_i2l dX9_chance_161 ?_
      refine r_lmul dX9_chance_162 ?_
      refine r_goto 167 dX9_chance_163 (by decide) ?_
      exact hJ167 _ hfin
set_option maxHeartbeats 4000000 in
set_option maxRecDepth 100000 in
theorem lp_rchN (g : Gx) (x : Cx) (P : Int64 → Mm → Prop) (M : Mm) (σ : Ab) (δ : Dy) (C : RA σ δ M) (j mm l : Nat) (hj : j < zS σ) (hmm : mm ≤ 2) (hl : l < 8) (p : Int32) (mi : Nat) (lo : Rw) (hlo : ∀ h, h < 8 → 0 ≤ lo h) (od : Lw) (K : ∀ (M2 : Mm), Fr [51, 52] [53] M M2 → RD M2 σ (yd δ) lo (yp δ) → (∀ h, h < 8 → mL M2 53 h = spI σ (yq δ) (yd δ) lo (yt δ) od (zN σ) h) → Vj x g yX9_chance cX9_chance 13 (Option.some FieldType.long) rmX9_chance (Qm x g rmX9_chance.cells rmX9_chance.slots (pL P)) 0 0 M2 247 [(0, some (.ref (g.1 + 44))), (1, some (.int (nI j))), (2, some (.int (nI mm))), (3, some (.int (nI l))), (4, some (.int p)), (5, some (.long (tenK (mi * zN σ + zN σ)))), (7, some (.int (nI mi))), (8, some (.int 0))] []) : ∀ (n : Nat) (i : Nat) (v : Int32) (wl : Int64) (M1 : Mm), i ≤ zN σ → zN σ - i < n → v = nI i → wl = tenK (mi * zN σ + i) → Fr [51, 52] [53] M M1 → RD M1 σ (yd δ) lo (yp δ) → (∀ h, h < 8 → mL M1 53 h = spI σ (yq δ) (yd δ) lo (yt δ) od i h) → Vj x g yX9_chance cX9_chance 13 (Option.some FieldType.long) rmX9_chance (Qm x g rmX9_chance.cells rmX9_chance.slots (pL P)) 0 0 M1 115 [(0, some (.ref (g.1 + 44))), (1, some (.int (nI j))), (2, some (.int (nI mm))), (3, some (.int (nI l))), (4, some (.int p)), (5, some (.long wl)), (7, some (.int (nI mi))), (8, some (.int v))] [] := by
  intro n
  induction n with
  | zero => intro i v wl M1 hiN hn hv ew hF D eo; omega
  | succ n ih =>
    intro i v wl M1 hiN hn hv ew hF D eo
    obtain ⟨hs, w, dw, V, r1, r2, r3, r4, r5, r6, r7⟩ := id C
    have hs1 := hs.fr hF
    have g1 : mI M1 44 = mI M 44 := hF.2.1 44 (by decide)
    subst hv
    have hv : nI i = nI i := rfl
    refine r_iload dX9_chance_115 rfl ?_
    refine r_aload_n dX9_chance_117 rfl ?_
    refine r_getI flX9_91_9 rfl (hs1.lt (by decide)) (hs1.T 44 rfl) dX9_chance_118 ?_
    refine r_icmp_ge 244 dX9_chance_121 (by decide) (fun c121 => ?_) (fun c121 => ?_)
    · skip
      rw [g1] at c121
      have ez := lp_ge (n := zN σ) hv V.1 c121 hiN (by have := w.1; omega)
      subst ez
      refine r_iconst (v := 0) dX9_chance_244 (by decide) ?_
      refine r_istore dX9_chance_245 (by decide) rfl ?_
      subst ew
      exact r_lv (lvSc rfl (lvSc rfl (lvSc rfl (lvSc rfl (lvSc rfl (lvSc rfl (lvSc rfl (lvSc rfl lvS0)))))))) (K M1 hF D eo)
    · skip
      rw [g1] at c121
      have hi : i < zN σ := lp_lt (n := zN σ) hv V.1 c121 hiN (by have := w.1; omega)
      exact r_lv (lvSc rfl (lvSc rfl (lvSc rfl (lvSc rfl (lvSc rfl (lvSc rfl (lvSc rfl (lvSc rfl lvS0)))))))) (bk_rch2 g x P M σ δ C j mm l hj hmm hl p mi i hi _ lo od M1 hF D hlo eo (fun M2 v wl2 f1 f2 f3 f4 f5 => ih (i + 1) v wl2 M2 (by omega) (by omega) f4 (by rw [f5, ew]; rfl) f1 f2 f3))
theorem ch_lo {σ : Ab} {δ : Dy} (dw : DW σ δ) (od : Lw) : ∀ n, ∀ h, h < 8 → 0 ≤ (chO σ δ od n).2 h
  | 0 => dw.1
  | n + 1 => lapF_0 (ch_lo dw od n)
set_option maxHeartbeats 4000000 in
set_option maxRecDepth 100000 in
theorem lp_rchM (g : Gx) (x : Cx) (P : Int64 → Mm → Prop) (M : Mm) (σ : Ab) (δ : Dy) (C : RA σ δ M) (j mm l : Nat) (hj : j < zS σ) (hmm : mm ≤ 2) (hl : l < 8) (p : Int32) (od : Lw) (hP : ∀ r M', Fr [51, 52] [53] M M' → r = (if p = 0 then (chO σ δ od mm).1 l else tenK (mm * zN σ)) / (euP 200 (tenK (mm * zN σ)) ((chO σ δ od mm).1 l)).1 → P r M') : ∀ (n : Nat) (i : Nat) (v : Int32) (wl : Int64) (M1 : Mm), i ≤ mm → mm - i < n → v = nI i → wl = tenK (i * zN σ) → Fr [51, 52] [53] M M1 → RD M1 σ (yd δ) (chO σ δ od i).2 (yp δ) → (∀ h, h < 8 → mL M1 53 h = (chO σ δ od i).1 h) → Vj x g yX9_chance cX9_chance 13 (Option.some FieldType.long) rmX9_chance (Qm x g rmX9_chance.cells rmX9_chance.slots (pL P)) 0 0 M1 106 [(0, some (.ref (g.1 + 44))), (1, some (.int (nI j))), (2, some (.int (nI mm))), (3, some (.int (nI l))), (4, some (.int p)), (5, some (.long wl)), (7, some (.int v))] [] := by
  intro n
  induction n with
  | zero => intro i v wl M1 him hn hv ew hF D eo; omega
  | succ n ih =>
    intro i v wl M1 him hn hv ew hF D eo
    obtain ⟨hs, w, dw, V, r1, r2, r3, r4, r5, r6, r7⟩ := id C
    have hs1 := hs.fr hF
    subst hv
    have hv : nI i = nI i := rfl
    refine r_iload dX9_chance_106 rfl ?_
    refine r_iload_n dX9_chance_108 rfl ?_
    refine r_icmp_ge 291 dX9_chance_109 (by decide) (fun c109 => ?_) (fun c109 => ?_)
    · skip
      have ez := lp_ge (n := mm) hv rfl c109 him (by omega)
      subst ez
      refine r_aload_n dX9_chance_291 rfl ?_
      refine r_getR flX9_34_9 rfl (hs1.lt (by decide)) (hs1.T 44 rfl) (hs1.R 44 18 rfl) dX9_chance_292 ?_
      refine r_iload_n dX9_chance_295 rfl ?_
      refine r_lal (hs1.T 53 rfl) (hs1.lt (by decide)) (ix_nI hl (by decide)) dX9_chance_296 ?_
      refine r_lload dX9_chance_297 rfl ?_
      refine r_iload dX9_chance_299 rfl ?_
      refine r_cS3l csX9_173 (kX9_term g M1 (mL M1 53 l) wl p (by rw [ew]; exact tenK_ne _ (by have := w.1; have : i * zN σ ≤ 2 * 8 := Nat.mul_le_mul hmm w.1; omega))) hs1.pos ⟨Nat.le_of_ble_eq_true rfl, Nat.le_of_ble_eq_true rfl⟩ (Nat.le_of_ble_eq_true rfl) ⟨Nat.le_of_ble_eq_true rfl, Nat.le_of_ble_eq_true rfl⟩ dX9_chance_301 (fun z301 M301 h301 => ?_)
      obtain ⟨e301, h301⟩ := h301
      replace e301 := e301.symm
      subst e301
      exact r_lret dX9_chance_304 ⟨_, rfl, hP _ _ hF (by rw [h301, ew, eo l hl])⟩
    · skip
      have hi : i < mm := lp_lt (n := mm) hv rfl c109 him (by omega)
      refine r_iconst (v := 0) dX9_chance_112 (by decide) ?_
      refine r_istore dX9_chance_113 (by decide) rfl ?_
      exact r_lv (lvSc rfl (lvSc rfl (lvSc rfl (lvSc rfl (lvSc rfl (lvSc rfl (lvSc rfl (lvSc rfl lvS0)))))))) (lp_rchN g x P M σ δ C j mm l hj hmm hl p i (chO σ δ od i).2 (ch_lo dw od i) (chO σ δ od i).1 (fun M2 f1 f2 f3 => lp_rchL g x P M σ δ C j mm l hj hmm hl p i _ M2 f1 (chO σ δ od i).2 f2 (ch_lo dw od i) (fun M3 v g1 g2 g3 g4 => ih (i + 1) v _ M3 (by omega) (by omega) g4 (by rw [Nat.succ_mul]) g1 g2 (fun h h8 => by rw [g3]; exact f3 h h8)) 9 0 0 M2 (by omega) (by omega) rfl (Fr.rf _ _ _) (fun h hh => by omega) (fun h _ h8 => f2.2.1 h h8)) (zN σ + 1) 0 0 wl M1 (by omega) (by omega) rfl (by rw [ew]; rfl) hF D eo)
set_option maxHeartbeats 4000000 in
set_option maxRecDepth 100000 in
theorem lp_rch0 (g : Gx) (x : Cx) (P : Int64 → Mm → Prop) (M : Mm) (σ : Ab) (δ : Dy) (C : RA σ δ M) (j mm l : Nat) (hj : j < zS σ) (hmm : mm ≤ 2) (hl : l < 8) (p : Int32) (hP : ∀ r M', Fr [51, 52] [53] M M' → r = (if p = 0 then (chO σ δ (od0 (yp δ j)) mm).1 l else tenK (mm * zN σ)) / (euP 200 (tenK (mm * zN σ)) ((chO σ δ (od0 (yp δ j)) mm).1 l)).1 → P r M') : ∀ (n : Nat) (i : Nat) (v : Int32) (M1 : Mm), i ≤ 8 → 8 - i < n → v = nI i → Fr [51, 52] [53] M M1 → RD M1 σ (yd δ) (yl δ) (yp δ) → (∀ h, h < i → mL M1 53 h = od0 (yp δ j) h) → Vj x g yX9_chance cX9_chance 13 (Option.some FieldType.long) rmX9_chance (Qm x g rmX9_chance.cells rmX9_chance.slots (pL P)) 0 0 M1 64 [(0, some (.ref (g.1 + 44))), (1, some (.int (nI j))), (2, some (.int (nI mm))), (3, some (.int (nI l))), (4, some (.int p)), (5, some (.int v))] [] := by
  intro n
  induction n with
  | zero => intro i v M1 hi8 hn hv hF D eo; omega
  | succ n ih =>
    intro i v M1 hi8 hn hv hF D eo
    obtain ⟨hs, w, dw, V, r1, r2, r3, r4, r5, r6, r7⟩ := id C
    have hs1 := hs.fr hF
    subst hv
    have hv : nI i = nI i := rfl
    refine r_iload dX9_chance_64 rfl ?_
    refine r_bipush (v := 8) dX9_chance_66 (by decide) ?_
    refine r_icmp_ge 100 dX9_chance_68 (by decide) (fun c68 => ?_) (fun c68 => ?_)
    · skip
      have ez := lp_ge (n := 8) hv rfl c68 hi8 (by decide)
      subst ez
      refine r_lconst (v := 1) dX9_chance_100 (by decide) ?_
      refine r_lstore dX9_chance_101 (by decide) rfl ?_
      refine r_iconst (v := 0) dX9_chance_103 (by decide) ?_
      refine r_istore dX9_chance_104 (by decide) rfl ?_
      exact r_lv (lvSc rfl (lvSc rfl (lvSc rfl (lvSc rfl (lvSc rfl (lvSc rfl (lvSc rfl lvS0))))))) (lp_rchM g x P M σ δ C j mm l hj hmm hl p (od0 (yp δ j)) hP (mm + 1) 0 0 1 M1 (by omega) (by omega) rfl (by rw [Nat.zero_mul]; rfl) hF D eo)
    · skip
      have hi8 : i < 8 := lp_lt (n := 8) hv rfl c68 hi8 (by decide)
      refine r_aload_n dX9_chance_71 rfl ?_
      refine r_getR flX9_34_9 rfl (hs1.lt (by decide)) (hs1.T 44 rfl) (hs1.R 44 18 rfl) dX9_chance_72 ?_
      refine r_iload dX9_chance_75 rfl ?_
      refine r_diaL (P := fun q => q = od0 (yp δ j) i) 93 (fun q hq => ?_) (fun hJ93 => ?_)
      · skip
        refine r_las (hs1.T 53 rfl) (hs1.lt (by decide)) (ix_nI hi8 (by decide)) dX9_chance_93 ?_
        refine r_iinc dX9_chance_94 rfl rfl rfl ?_
        refine r_goto 64 dX9_chance_97 (by decide) ?_
        exact r_lv (lvSc rfl (lvSc rfl (lvSc rfl (lvSc rfl (lvSc rfl (lvSc rfl lvS0)))))) (ih (i + 1) _ _ (by omega) (by omega) (nI_inc rfl) (hF.sL (by simp)) D (fun h hh => by
          rw [mL_sL, va_up_if]
          split
          · next e => rw [hq, e]
          · exact eo h (by omega)))
      · skip
        refine r_iload dX9_chance_77 rfl ?_
        refine r_aload_n dX9_chance_79 rfl ?_
        refine r_getR flX9_28_9 rfl (hs1.lt (by decide)) (hs1.T 44 rfl) (hs1.R 44 16 rfl) dX9_chance_80 ?_
        refine r_iload_n dX9_chance_83 rfl ?_
        refine r_ial (hs1.T 51 rfl) (hs1.lt (by decide)) (ix_nI (by have := w.2.1; omega) (by decide)) dX9_chance_84 ?_
        refine r_icmp_ne 92 dX9_chance_85 (by decide) (fun c85 => ?_) (fun c85 => ?_)
        · skip
          rw [D.1 j hj] at c85
          have hfin : (0 : Int64) = od0 (yp δ j) i := by rw [od0, if_neg c85]
          refine r_lconst (v := 0) dX9_chance_92 (by decide) ?_
          exact hJ93 _ hfin
        · skip
          rw [D.1 j hj] at c85
          have hfin : (1 : Int64) = od0 (yp δ j) i := by rw [od0, if_pos c85]
          refine r_lconst (v := 1) dX9_chance_88 (by decide) ?_
          refine r_goto 93 dX9_chance_89 (by decide) ?_
          exact hJ93 _ hfin
set_option maxHeartbeats 4000000 in
set_option maxRecDepth 100000 in
theorem kX9_chance (g : Gx) (M : Mm) (σ : Ab) (δ : Dy) (C : RA σ δ M) (s m h p : Int32) : Ct g yX9_chance cX9_chance 13 (Option.some FieldType.long) rmX9_chance [.ref (g.1 + 44), .int s, .int m, .int h, .int p] M (pL fun r M' => Fr [51, 52] [53] M M' ∧ r = chaR σ δ s m h p) := by
  obtain ⟨hs, w, dw, V, r1, r2, r3, r4, r5, r6, r7⟩ := id C
  refine Ct.of rfl (Nat.le_of_ble_eq_true rfl) (fun x => ?_)
  refine r_aload_n dX9_chance_0 rfl ?_
  refine r_iload_n dX9_chance_1 rfl ?_
  refine r_cV1i cvX9_124 (kX9_isSpoon g M hs (zS σ) w.2.1 V.2.1 s) (hs.lt (by decide)) (hs.T 44 rfl) ⟨Nat.le_of_ble_eq_true rfl, Nat.le_of_ble_eq_true rfl⟩ (Nat.le_of_ble_eq_true rfl) ⟨Nat.le_of_ble_eq_true rfl, Nat.le_of_ble_eq_true rfl⟩ dX9_chance_2 (fun z2 M2 h2 => ?_)
  obtain ⟨e2, h2⟩ := h2
  replace e2 := e2.symm
  subst e2
  refine r_if_eq 15 dX9_chance_5 (by decide) (fun c5 => ?_) (fun c5 => ?_)
  · skip
    refine r_ldc2_w (v := -101) dX9_chance_15 tw877 ?_
    exact r_lret dX9_chance_18 ⟨_, rfl, Fr.rf _ _ _, by rw [chaR, if_neg (fun z => zero_of h2 c5 z.1)]⟩
  · skip
    refine r_iload_n dX9_chance_8 rfl ?_
    refine r_cS1i csX9_116 (kX9_isHouse g M hs h) hs.pos ⟨Nat.le_of_ble_eq_true rfl, Nat.le_of_ble_eq_true rfl⟩ (Nat.le_of_ble_eq_true rfl) ⟨Nat.le_of_ble_eq_true rfl, Nat.le_of_ble_eq_true rfl⟩ dX9_chance_9 (fun z9 M9 h9 => ?_)
    obtain ⟨e9, h9⟩ := h9
    replace e9 := e9.symm
    subst e9
    refine r_if_ne 19 dX9_chance_12 (by decide) (fun c12 => ?_) (fun c12 => ?_)
    · skip
      refine r_iload_n dX9_chance_19 rfl ?_
      refine r_i2l dX9_chance_20 ?_
      refine r_lconst (v := 1) dX9_chance_21 (by decide) ?_
      refine r_ldc2_w (v := 2) dX9_chance_22 tw878 ?_
      refine r_cS3i csX9_70 (kX9_in g M m.toInt64 1 2) hs.pos ⟨Nat.le_of_ble_eq_true rfl, Nat.le_of_ble_eq_true rfl⟩ (Nat.le_of_ble_eq_true rfl) ⟨Nat.le_of_ble_eq_true rfl, Nat.le_of_ble_eq_true rfl⟩ dX9_chance_25 (fun z25 M25 h25 => ?_)
      obtain ⟨e25, h25⟩ := h25
      replace e25 := e25.symm
      subst e25
      replace h25 := inI 1 2 h25
      refine r_if_eq 42 dX9_chance_28 (by decide) (fun c28 => ?_) (fun c28 => ?_)
      · skip
        refine r_ldc2_w (v := -102) dX9_chance_42 tw879 ?_
        exact r_lret dX9_chance_45 ⟨_, rfl, Fr.rf _ _ _, by rw [chaR, if_pos ⟨one_of h2 c5, one_of h9 c12⟩, if_neg (fun z => zero_of h25 c28 z.1)]⟩
      · skip
        refine r_iload dX9_chance_31 rfl ?_
        refine r_i2l dX9_chance_33 ?_
        refine r_lconst (v := 0) dX9_chance_34 (by decide) ?_
        refine r_lconst (v := 1) dX9_chance_35 (by decide) ?_
        refine r_cS3i csX9_70 (kX9_in g M p.toInt64 0 1) hs.pos ⟨Nat.le_of_ble_eq_true rfl, Nat.le_of_ble_eq_true rfl⟩ (Nat.le_of_ble_eq_true rfl) ⟨Nat.le_of_ble_eq_true rfl, Nat.le_of_ble_eq_true rfl⟩ dX9_chance_36 (fun z36 M36 h36 => ?_)
        obtain ⟨e36, h36⟩ := h36
        replace e36 := e36.symm
        subst e36
        replace h36 := inI 0 1 h36
        refine r_if_ne 46 dX9_chance_39 (by decide) (fun c39 => ?_) (fun c39 => ?_)
        · skip
          refine r_aload_n dX9_chance_46 rfl ?_
          refine r_cV0i cvX9_147 (kX9_lacks g M hs) (hs.lt (by decide)) (hs.T 44 rfl) ⟨Nat.le_of_ble_eq_true rfl, Nat.le_of_ble_eq_true rfl⟩ (Nat.le_of_ble_eq_true rfl) ⟨Nat.le_of_ble_eq_true rfl, Nat.le_of_ble_eq_true rfl⟩ dX9_chance_47 (fun z47 M47 h47 => ?_)
          obtain ⟨e47, h47⟩ := h47
          replace e47 := e47.symm
          subst e47
          rw [V.1, ite_iff (nI_zero w.1)] at h47
          refine r_if_eq 57 dX9_chance_50 (by decide) (fun c50 => ?_) (fun c50 => ?_)
          · skip
            refine r_aload_n dX9_chance_57 rfl ?_
            refine r_cV0v cvX9_151 (kX9_begin g M σ δ C) (hs.lt (by decide)) (hs.T 44 rfl) ⟨Nat.le_of_ble_eq_true rfl, Nat.le_of_ble_eq_true rfl⟩ (Nat.le_of_ble_eq_true rfl) ⟨Nat.le_of_ble_eq_true rfl, Nat.le_of_ble_eq_true rfl⟩ dX9_chance_58 (fun M58 h58 => ?_)
            obtain ⟨hF58, D58⟩ := h58
            have hs58 := hs.fr hF58
            have V58 := V.fr hF58 (by simp)
            have g58 : mI M58 44 = mI M 44 := hF58.2.1 44 (by decide)
            have q58 : ∀ t, t < zN σ → bitI (mI M58 44 8) t = yq δ t := fun t ht => by rw [g58]; exact r4 t ht
            refine r_iconst (v := 0) dX9_chance_61 (by decide) ?_
            refine r_istore dX9_chance_62 (by decide) rfl ?_
            obtain ⟨j, hj, ej⟩ := ix_ex (by have := w.2.1; omega) (one_of h2 c5).1 (one_of h2 c5).2
            obtain ⟨l, hl, el⟩ := ix_ex (n := 8) (by decide) (one_of h9 c12).1 (one_of h9 c12).2
            obtain ⟨mm, hmm, em⟩ := nI_rng (n := 2) (show 0 ≤ m by have := (one_of h25 c28).1; grind) (one_of h25 c28).2 (by decide)
            have ea : chaR σ δ s m h p = (if p = 0 then (chO σ δ (od0 (yp δ j)) mm).1 l else tenK (mm * zN σ)) / (euP 200 (tenK (mm * zN σ)) ((chO σ δ (od0 (yp δ j)) mm).1 l)).1 := by rw [chaR, if_pos ⟨one_of h2 c5, one_of h9 c12⟩, if_pos ⟨one_of h25 c28, one_of h36 c39⟩, if_neg (zero_of h47 c50), ej, el, em, nI_clamp (by have := w.2.1; omega), nI_clamp (by omega), nI_clamp (by omega)]
            rw [ea]
            clear ea h2 h9 h25
            subst ej
            subst el
            subst em
            exact r_lv (lvSc rfl (lvSc rfl (lvSc rfl (lvSc rfl (lvSc rfl (lvSc rfl lvS0)))))) (lp_rch0 g x _ M σ δ C j mm l hj hmm hl p (fun r M' f e => ⟨f, e⟩) 9 0 0 M58 (by omega) (by omega) rfl (hF58.mono (by simp) (by simp)) D58 (fun h hh => by omega))
          · skip
            refine r_ldc2_w (v := -103) dX9_chance_53 tw880 ?_
            exact r_lret dX9_chance_56 ⟨_, rfl, Fr.rf _ _ _, by rw [chaR, if_pos ⟨one_of h2 c5, one_of h9 c12⟩, if_pos ⟨one_of h25 c28, one_of h36 c39⟩, if_pos (one_of h47 c50)]⟩
        · skip
          refine r_ldc2_w (v := -102) dX9_chance_42 tw879 ?_
          exact r_lret dX9_chance_45 ⟨_, rfl, Fr.rf _ _ _, by rw [chaR, if_pos ⟨one_of h2 c5, one_of h9 c12⟩, if_neg (fun z => zero_of h36 c39 z.2)]⟩
    · skip
      refine r_ldc2_w (v := -101) dX9_chance_15 tw877 ?_
      exact r_lret dX9_chance_18 ⟨_, rfl, Fr.rf _ _ _, by rw [chaR, if_neg (fun z => zero_of h9 c12 z.2)]⟩
