/-! the reference: images, letters -/
theorem r_cS2v {x : Cx} {g : Gx} {y y' : MethodName} {cc cc' : ByteArray} {nL nL' : Nat} {ret ret' : Option FieldType} {R rm : Room} {Q : State → Prop} {k sl : Nat} {M : Mm} {pc idx : Nat} {lv : Lv} {rest : List Value} {v1 v2 : Value} {q : Mm → Prop} (f : CS y.cls idx y' cc' nL' ret' 2) (ct : Ct g y' cc' nL' ret' rm [v1, v2] M (pV q)) (h0 : 0 < mN M) (hR : rm.frames + 1 ≤ R.frames ∧ 8 + (nL' + 11) + rm.locals ≤ R.locals) (hr : (rest.map fun v => v.category).sum ≤ 8) (hc : k + rm.cells ≤ R.cells ∧ sl + rm.slots ≤ R.slots) (d : decode cc pc = .ok (.invokestatic idx, 3)) (kk : ∀ M' : Mm, q M' → Vj x g y cc nL ret R Q (k + rm.cells) (sl + rm.slots) M' (pc + 3) lv rest) : Vj x g y cc nL ret R Q k sl M pc lv (v2 :: v1 :: rest) := r_runS (av := [v1, v2]) f ct rfl hR hr hc h0 d (fun v M' hp => by obtain ⟨rfl, hq⟩ := hp; exact kk M' hq)
/-- what the reference keeps -/
def RK (σ : Ab) (δ : Dy) (M : Mm) : Prop := (∀ s, s < zS σ → mI M 58 (4 * s) = zw σ s ∧ mI M 58 (4 * s + 1) = zo σ s ∧ mI M 58 (4 * s + 2) = yp δ s ∧ mI M 58 (4 * s + 3) = ye δ s) ∧ (∀ h, h < 8 → mI M 56 h = yl δ h) ∧ (∀ h, h < 8 → mI M 44 26 >>> (nI h &&& 31) &&& 1 = yd δ h) ∧ (∀ t, t < zN σ → mI M 44 27 >>> (nI t &&& 31) &&& 1 = yq δ t) ∧ (∀ t, t < zN σ → mI M 57 t = yt δ t) ∧ mI M 44 24 = ym δ ∧ mI M 44 25 = yf δ
def rmX9_copy : Room := { frames := 0, cells := 0, slots := 0, locals := 0 }
set_option maxHeartbeats 4000000 in
set_option maxRecDepth 100000 in
theorem lp_rcopy (g : Gx) (x : Cx) (M : Mm) (hs : St M) (a b m : Nat) (ha : a < mN M) (hb : b < mN M) (Ta : mT M a = .inr (0, m)) (Tb : mT M b = .inr (0, m)) (hab : a ≠ b) (hm : m < 2 ^ 31) : ∀ (n : Nat) (i : Nat) (v : Int32) (M1 : Mm), i ≤ m → m - i < n → v = nI i → Fr [b] [] M M1 → (∀ k, k < i → mI M1 b k = mI M a k) → Vj x g yX9_copy cX9_copy 3 none rmX9_copy (Qm x g rmX9_copy.cells rmX9_copy.slots (pV fun M' => Fr [b] [] M M' ∧ ∀ k, k < m → mI M' b k = mI M a k)) 0 0 M1 2 [(0, some (.ref (g.1 + a))), (1, some (.ref (g.1 + b))), (2, some (.int v))] [] := by
  intro n
  induction n with
  | zero => intro i v M1 him hn hv hF ea; omega
  | succ n ih =>
    intro i v M1 him hn hv hF ea
    have hs1 := hs.fr hF
    have ha1 : a < mN M1 := by rw [hF.1.1]; exact ha
    have hb1 : b < mN M1 := by rw [hF.1.1]; exact hb
    have Ta1 : mT M1 a = .inr (0, m) := by rw [hF.1.2.1]; exact Ta
    have Tb1 : mT M1 b = .inr (0, m) := by rw [hF.1.2.1]; exact Tb
    subst hv
    have hv : nI i = nI i := rfl
    refine r_iload_n dX9_copy_2 rfl ?_
    refine r_aload_n dX9_copy_3 rfl ?_
    refine r_alenI Ta1 ha1 dX9_copy_4 ?_
    refine r_icmp_ge 20 dX9_copy_5 (by decide) (fun c5 => ?_) (fun c5 => ?_)
    · skip
      have ez := lp_ge (n := m) hv rfl c5 him hm
      subst ez
      exact r_ret dX9_copy_20 ⟨rfl, hF, ea⟩
    · skip
      have hi : i < m := lp_lt (n := m) hv rfl c5 him hm
      refine r_aload_n dX9_copy_8 rfl ?_
      refine r_iload_n dX9_copy_9 rfl ?_
      refine r_aload_n dX9_copy_10 rfl ?_
      refine r_iload_n dX9_copy_11 rfl ?_
      refine r_ial Ta1 ha1 (ix_nI hi hm) dX9_copy_12 ?_
      refine r_ias Tb1 hb1 (ix_nI hi hm) dX9_copy_13 ?_
      refine r_iinc dX9_copy_14 rfl rfl rfl ?_
      refine r_goto 2 dX9_copy_17 (by decide) ?_
      exact r_lv (lvSc rfl (lvSc rfl (lvSc rfl lvS0))) (ih (i + 1) _ _ (by omega) (by omega) (nI_inc rfl) (hF.sI (by simp)) (fun k hk => by
        rw [mI_sI, va_up_if]
        split
        · next e => rw [e, hF.2.1 a (by simp; exact hab)]
        · exact ea k (by omega)))
set_option maxHeartbeats 4000000 in
set_option maxRecDepth 100000 in
theorem kX9_copy (g : Gx) (M : Mm) (hs : St M) (a b m : Nat) (ha : a < mN M) (hb : b < mN M) (Ta : mT M a = .inr (0, m)) (Tb : mT M b = .inr (0, m)) (hab : a ≠ b) (hm : m < 2 ^ 31) : Ct g yX9_copy cX9_copy 3 none rmX9_copy [.ref (g.1 + a), .ref (g.1 + b)] M (pV fun M' => Fr [b] [] M M' ∧ ∀ k, k < m → mI M' b k = mI M a k) := by
  refine Ct.of rfl (Nat.le_of_ble_eq_true rfl) (fun x => ?_)
  refine r_iconst (v := 0) dX9_copy_0 (by decide) ?_
  refine r_istore_n dX9_copy_1 (by decide) rfl ?_
  exact r_lv (lvSc rfl (lvSc rfl (lvSc rfl lvS0))) (lp_rcopy g x M hs a b m ha hb Ta Tb hab hm (m + 1) 0 0 M (by omega) (by omega) rfl (Fr.rf _ _ _) (fun k hk => by omega))
def rmX9_image : Room := { frames := 1, cells := 0, slots := 0, locals := 22 }
set_option maxHeartbeats 4000000 in
set_option maxRecDepth 100000 in
theorem kX9_image (g : Gx) (M : Mm) (σ : Ab) (δ : Dy) (C : RA σ δ M) : Ct g yX9_image cX9_image 1 (Option.some FieldType.int) rmX9_image [.ref (g.1 + 44)] M (pI fun r M' => Fr [44, 56, 57, 58] [] M M' ∧ r = nI (zS σ) ∧ RK σ δ M' ∧ mI M' 44 22 = mI M 44 6 ∧ mI M' 44 23 = nI (zS σ) ∧ ∀ k, k < 22 → mI M' 44 k = mI M 44 k) := by
  obtain ⟨hs, w, dw, V, r1, r2, r3, r4, r5, r6, r7⟩ := id C
  refine Ct.of rfl (Nat.le_of_ble_eq_true rfl) (fun x => ?_)
  refine r_aload_n dX9_image_0 rfl ?_
  refine r_getR flX9_22_9 rfl (hs.lt (by decide)) (hs.T 44 rfl) (hs.R 44 14 rfl) dX9_image_1 ?_
  refine r_aload_n dX9_image_4 rfl ?_
  refine r_getR flX9_44_9 rfl (hs.lt (by decide)) (hs.T 44 rfl) (hs.R 44 28 rfl) dX9_image_5 ?_
  refine r_cS2v csX9_224 (kX9_copy g M hs 49 56 8 (hs.lt (by decide)) (hs.lt (by decide)) (hs.T 49 rfl) (hs.T 56 rfl) (by decide) (by decide)) hs.pos ⟨Nat.le_of_ble_eq_true rfl, Nat.le_of_ble_eq_true rfl⟩ (Nat.le_of_ble_eq_true rfl) ⟨Nat.le_of_ble_eq_true rfl, Nat.le_of_ble_eq_true rfl⟩ dX9_image_8 (fun M8 h8 => ?_)
  obtain ⟨f8, k8⟩ := h8
  have hs8 := hs.fr f8
  refine r_aload_n dX9_image_11 rfl ?_
  refine r_getR flX9_19_9 rfl (hs8.lt (by decide)) (hs8.T 44 rfl) (hs8.R 44 9 rfl) dX9_image_12 ?_
  refine r_aload_n dX9_image_15 rfl ?_
  refine r_getR flX9_47_9 rfl (hs8.lt (by decide)) (hs8.T 44 rfl) (hs8.R 44 29 rfl) dX9_image_16 ?_
  refine r_cS2v csX9_224 (kX9_copy g M8 hs8 48 57 8 (hs8.lt (by decide)) (hs8.lt (by decide)) (hs8.T 48 rfl) (hs8.T 57 rfl) (by decide) (by decide)) hs8.pos ⟨Nat.le_of_ble_eq_true rfl, Nat.le_of_ble_eq_true rfl⟩ (Nat.le_of_ble_eq_true rfl) ⟨Nat.le_of_ble_eq_true rfl, Nat.le_of_ble_eq_true rfl⟩ dX9_image_19 (fun M19 h19 => ?_)
  obtain ⟨f19, k19⟩ := h19
  have hs19 := hs8.fr f19
  refine r_aload_n dX9_image_22 rfl ?_
  refine r_getR flX9_25_9 rfl (hs19.lt (by decide)) (hs19.T 44 rfl) (hs19.R 44 15 rfl) dX9_image_23 ?_
  refine r_aload_n dX9_image_26 rfl ?_
  refine r_getR flX9_50_9 rfl (hs19.lt (by decide)) (hs19.T 44 rfl) (hs19.R 44 30 rfl) dX9_image_27 ?_
  refine r_cS2v csX9_224 (kX9_copy g M19 hs19 50 58 32 (hs19.lt (by decide)) (hs19.lt (by decide)) (hs19.T 50 rfl) (hs19.T 58 rfl) (by decide) (by decide)) hs19.pos ⟨Nat.le_of_ble_eq_true rfl, Nat.le_of_ble_eq_true rfl⟩ (Nat.le_of_ble_eq_true rfl) ⟨Nat.le_of_ble_eq_true rfl, Nat.le_of_ble_eq_true rfl⟩ dX9_image_30 (fun M30 h30 => ?_)
  obtain ⟨f30, k30⟩ := h30
  have hs30 := hs19.fr f30
  refine r_aload_n dX9_image_33 rfl ?_
  refine r_aload_n dX9_image_34 rfl ?_
  refine r_getI flX9_113_9 rfl (hs30.lt (by decide)) (hs30.T 44 rfl) dX9_image_35 ?_
  refine r_putI fpX9_228_9 rfl (hs30.lt (by decide)) (hs30.T 44 rfl) rfl rfl dX9_image_38 ?_
  refine r_aload_n dX9_image_41 rfl ?_
  refine r_aload_n dX9_image_42 rfl ?_
  refine r_getI flX9_157_9 rfl (hs30.lt (by decide)) (hs30.T 44 rfl) dX9_image_43 ?_
  refine r_putI fpX9_231_9 rfl (hs30.lt (by decide)) (hs30.T 44 rfl) rfl rfl dX9_image_46 ?_
  refine r_aload_n dX9_image_49 rfl ?_
  refine r_aload_n dX9_image_50 rfl ?_
  refine r_getI flX9_160_9 rfl (hs30.lt (by decide)) (hs30.T 44 rfl) dX9_image_51 ?_
  refine r_putI fpX9_234_9 rfl (hs30.lt (by decide)) (hs30.T 44 rfl) rfl rfl dX9_image_54 ?_
  refine r_aload_n dX9_image_57 rfl ?_
  refine r_aload_n dX9_image_58 rfl ?_
  refine r_getI flX9_119_9 rfl (hs30.lt (by decide)) (hs30.T 44 rfl) dX9_image_59 ?_
  refine r_putI fpX9_237_9 rfl (hs30.lt (by decide)) (hs30.T 44 rfl) rfl rfl dX9_image_62 ?_
  refine r_aload_n dX9_image_65 rfl ?_
  refine r_aload_n dX9_image_66 rfl ?_
  refine r_getI flX9_94_9 rfl (hs30.lt (by decide)) (hs30.T 44 rfl) dX9_image_67 ?_
  refine r_putI fpX9_240_9 rfl (hs30.lt (by decide)) (hs30.T 44 rfl) rfl rfl dX9_image_70 ?_
  refine r_aload_n dX9_image_73 rfl ?_
  refine r_aload_n dX9_image_74 rfl ?_
  refine r_getI flX9_97_9 rfl (hs30.lt (by decide)) (hs30.T 44 rfl) dX9_image_75 ?_
  refine r_putI fpX9_53_9 rfl (hs30.lt (by decide)) (hs30.T 44 rfl) rfl rfl dX9_image_78 ?_
  refine r_aload_n dX9_image_81 rfl ?_
  refine r_getI flX9_113_9 rfl (hs30.lt (by decide)) (hs30.T 44 rfl) dX9_image_82 ?_
  exact r_iret dX9_image_85 (by
    have g44 : mI M30 44 = mI M 44 := (f30.2.1 44 (by decide)).trans ((f19.2.1 44 (by decide)).trans (f8.2.1 44 (by decide)))
    refine ⟨_, rfl, ((((((((f8.mono (by simp) (by simp)).tr (f19.mono (by simp) (by simp))).tr (f30.mono (by simp) (by simp))).sI (by simp)).sI (by simp)).sI (by simp)).sI (by simp)).sI (by simp)).sI (by simp), ?_, ⟨fun s hs => ?_, fun h h8 => ?_, ?_, ?_, fun t ht => ?_, ?_, ?_⟩, ?_, ?_, fun k hk => ?_⟩
    · show mI M30 44 10 = _
      rw [g44]; exact V.2.1
    · have w2 := w.2.1
      have e50 : ∀ k, k < 32 → mI M30 58 k = mI M 50 k := fun k hk => by rw [k30 k hk, f19.2.1 50 (by decide), f8.2.1 50 (by decide)]
      show mI M30 58 (4 * s) = _ ∧ mI M30 58 (4 * s + 1) = _ ∧ mI M30 58 (4 * s + 2) = _ ∧ mI M30 58 (4 * s + 3) = _
      rw [e50 _ (by omega), e50 _ (by omega), e50 _ (by omega), e50 _ (by omega)]
      exact ⟨(V.2.2.2 s hs).1, (V.2.2.2 s hs).2, (r1 s hs).1, (r1 s hs).2⟩
    · show mI M30 56 h = _
      rw [f30.2.1 56 (by decide), f19.2.1 56 (by decide), k8 h h8]; exact r2 h h8
    · show ∀ h, h < 8 → mI M30 44 13 >>> (nI h &&& 31) &&& 1 = yd δ h
      rw [g44]; exact r3
    · show ∀ t, t < zN σ → mI M30 44 8 >>> (nI t &&& 31) &&& 1 = yq δ t
      rw [g44]; exact r4
    · show mI M30 57 t = _
      rw [f30.2.1 57 (by decide), k19 t (by have := w.1; omega), f8.2.1 48 (by decide)]; exact r5 t ht
    · show mI M30 44 11 = _
      rw [g44]; exact r6
    · show mI M30 44 12 = _
      rw [g44]; exact r7
    · show mI M30 44 6 = _
      rw [g44]
    · show mI M30 44 10 = _
      rw [g44]; exact V.2.1
    · simp only [mI_sI]
      rw [va_up_ne _ _ (by omega), va_up_ne _ _ (by omega), va_up_ne _ _ (by omega), va_up_ne _ _ (by omega), va_up_ne _ _ (by omega), va_up_ne _ _ (by omega), g44])
def rmX9_restore : Room := { frames := 1, cells := 0, slots := 0, locals := 22 }
set_option maxHeartbeats 4000000 in
set_option maxRecDepth 100000 in
theorem kX9_restore (g : Gx) (M : Mm) (σ : Ab) (δ : Dy) (C : RA σ δ M) (δ2 : Dy) (HK : mI M 44 22 = mI M 44 6 ∧ mI M 44 23 = mI M 44 10 → RK σ δ2 M ∧ DW σ δ2) : Ct g yX9_restore cX9_restore 1 (Option.some FieldType.int) rmX9_restore [.ref (g.1 + 44)] M (pI fun r M' => (mI M 44 22 = mI M 44 6 ∧ mI M 44 23 = mI M 44 10 → Fr [44, 48, 49, 50] [] M M' ∧ r = nI (zS σ) ∧ RA σ δ2 M' ∧ ∀ k, k ≠ 8 → k ≠ 11 → k ≠ 12 → k ≠ 13 → mI M' 44 k = mI M 44 k) ∧ (¬ (mI M 44 22 = mI M 44 6 ∧ mI M 44 23 = mI M 44 10) → M' = M ∧ r = -103)) := by
  obtain ⟨hs, w, dw, V, r1, r2, r3, r4, r5, r6, r7⟩ := id C
  refine Ct.of rfl (Nat.le_of_ble_eq_true rfl) (fun x => ?_)
  refine r_aload_n dX9_restore_0 rfl ?_
  refine r_getI flX9_53_9 rfl (hs.lt (by decide)) (hs.T 44 rfl) dX9_restore_1 ?_
  refine r_aload_n dX9_restore_4 rfl ?_
  refine r_getI flX9_97_9 rfl (hs.lt (by decide)) (hs.T 44 rfl) dX9_restore_5 ?_
  refine r_icmp_ne 22 dX9_restore_8 (by decide) (fun c8 => ?_) (fun c8 => ?_)
  · skip
    refine r_bipush (v := -103) dX9_restore_22 (by decide) ?_
    exact r_iret dX9_restore_24 ⟨_, rfl, fun z => absurd z.1 c8, fun _ => ⟨rfl, rfl⟩⟩
  · skip
    refine r_aload_n dX9_restore_11 rfl ?_
    refine r_getI flX9_228_9 rfl (hs.lt (by decide)) (hs.T 44 rfl) dX9_restore_12 ?_
    refine r_aload_n dX9_restore_15 rfl ?_
    refine r_getI flX9_113_9 rfl (hs.lt (by decide)) (hs.T 44 rfl) dX9_restore_16 ?_
    refine r_icmp_eq 25 dX9_restore_19 (by decide) (fun c19 => ?_) (fun c19 => ?_)
    · skip
      obtain ⟨⟨q1, q2, q3, q4, q5, q6, q7⟩, dw2⟩ := HK ⟨c8, c19⟩
      refine r_aload_n dX9_restore_25 rfl ?_
      refine r_getR flX9_44_9 rfl (hs.lt (by decide)) (hs.T 44 rfl) (hs.R 44 28 rfl) dX9_restore_26 ?_
      refine r_aload_n dX9_restore_29 rfl ?_
      refine r_getR flX9_22_9 rfl (hs.lt (by decide)) (hs.T 44 rfl) (hs.R 44 14 rfl) dX9_restore_30 ?_
      refine r_cS2v csX9_224 (kX9_copy g M hs 56 49 8 (hs.lt (by decide)) (hs.lt (by decide)) (hs.T 56 rfl) (hs.T 49 rfl) (by decide) (by decide)) hs.pos ⟨Nat.le_of_ble_eq_true rfl, Nat.le_of_ble_eq_true rfl⟩ (Nat.le_of_ble_eq_true rfl) ⟨Nat.le_of_ble_eq_true rfl, Nat.le_of_ble_eq_true rfl⟩ dX9_restore_33 (fun M33 h33 => ?_)
      obtain ⟨f33, k33⟩ := h33
      have hs33 := hs.fr f33
      refine r_aload_n dX9_restore_36 rfl ?_
      refine r_getR flX9_47_9 rfl (hs33.lt (by decide)) (hs33.T 44 rfl) (hs33.R 44 29 rfl) dX9_restore_37 ?_
      refine r_aload_n dX9_restore_40 rfl ?_
      refine r_getR flX9_19_9 rfl (hs33.lt (by decide)) (hs33.T 44 rfl) (hs33.R 44 9 rfl) dX9_restore_41 ?_
      refine r_cS2v csX9_224 (kX9_copy g M33 hs33 57 48 8 (hs33.lt (by decide)) (hs33.lt (by decide)) (hs33.T 57 rfl) (hs33.T 48 rfl) (by decide) (by decide)) hs33.pos ⟨Nat.le_of_ble_eq_true rfl, Nat.le_of_ble_eq_true rfl⟩ (Nat.le_of_ble_eq_true rfl) ⟨Nat.le_of_ble_eq_true rfl, Nat.le_of_ble_eq_true rfl⟩ dX9_restore_44 (fun M44 h44 => ?_)
      obtain ⟨f44, k44⟩ := h44
      have hs44 := hs33.fr f44
      refine r_aload_n dX9_restore_47 rfl ?_
      refine r_getR flX9_50_9 rfl (hs44.lt (by decide)) (hs44.T 44 rfl) (hs44.R 44 30 rfl) dX9_restore_48 ?_
      refine r_aload_n dX9_restore_51 rfl ?_
      refine r_getR flX9_25_9 rfl (hs44.lt (by decide)) (hs44.T 44 rfl) (hs44.R 44 15 rfl) dX9_restore_52 ?_
      refine r_cS2v csX9_224 (kX9_copy g M44 hs44 58 50 32 (hs44.lt (by decide)) (hs44.lt (by decide)) (hs44.T 58 rfl) (hs44.T 50 rfl) (by decide) (by decide)) hs44.pos ⟨Nat.le_of_ble_eq_true rfl, Nat.le_of_ble_eq_true rfl⟩ (Nat.le_of_ble_eq_true rfl) ⟨Nat.le_of_ble_eq_true rfl, Nat.le_of_ble_eq_true rfl⟩ dX9_restore_55 (fun M55 h55 => ?_)
      obtain ⟨f55, k55⟩ := h55
      have hs55 := hs44.fr f55
      refine r_aload_n dX9_restore_58 rfl ?_
      refine r_aload_n dX9_restore_59 rfl ?_
      refine r_getI flX9_231_9 rfl (hs55.lt (by decide)) (hs55.T 44 rfl) dX9_restore_60 ?_
      refine r_putI fpX9_157_9 rfl (hs55.lt (by decide)) (hs55.T 44 rfl) rfl rfl dX9_restore_63 ?_
      refine r_aload_n dX9_restore_66 rfl ?_
      refine r_aload_n dX9_restore_67 rfl ?_
      refine r_getI flX9_234_9 rfl (hs55.lt (by decide)) (hs55.T 44 rfl) dX9_restore_68 ?_
      refine r_putI fpX9_160_9 rfl (hs55.lt (by decide)) (hs55.T 44 rfl) rfl rfl dX9_restore_71 ?_
      refine r_aload_n dX9_restore_74 rfl ?_
      refine r_aload_n dX9_restore_75 rfl ?_
      refine r_getI flX9_237_9 rfl (hs55.lt (by decide)) (hs55.T 44 rfl) dX9_restore_76 ?_
      refine r_putI fpX9_119_9 rfl (hs55.lt (by decide)) (hs55.T 44 rfl) rfl rfl dX9_restore_79 ?_
      refine r_aload_n dX9_restore_82 rfl ?_
      refine r_aload_n dX9_restore_83 rfl ?_
      refine r_getI flX9_240_9 rfl (hs55.lt (by decide)) (hs55.T 44 rfl) dX9_restore_84 ?_
      refine r_putI fpX9_94_9 rfl (hs55.lt (by decide)) (hs55.T 44 rfl) rfl rfl dX9_restore_87 ?_
      refine r_aload_n dX9_restore_90 rfl ?_
      refine r_getI flX9_113_9 rfl (hs55.lt (by decide)) (hs55.T 44 rfl) dX9_restore_91 ?_
      exact r_iret dX9_restore_94 (by
        have g44 : mI M55 44 = mI M 44 := (f55.2.1 44 (by decide)).trans ((f44.2.1 44 (by decide)).trans (f33.2.1 44 (by decide)))
        have hFT : Fr [44, 48, 49, 50] [] M (sI (sI (sI (sI M55 44 11 (mI M55 44 24)) 44 12 (mI M55 44 25)) 44 13 (mI M55 44 26)) 44 8 (mI M55 44 27)) := ((((((f33.mono (by simp) (by simp)).tr (f44.mono (by simp) (by simp))).tr (f55.mono (by simp) (by simp))).sI (by simp)).sI (by simp)).sI (by simp)).sI (by simp)
        refine ⟨_, rfl, fun _ => ⟨hFT, ?_, ?_, fun k k1 k2 k3 k4 => ?_⟩, fun z => absurd ⟨c8, c19⟩ z⟩
        · show mI M55 44 10 = _
          rw [g44]; exact V.2.1
        · have e58 : ∀ k, k < 32 → mI M55 50 k = mI M 58 k := fun k hk => by rw [k55 k hk, f44.2.1 58 (by decide), f33.2.1 58 (by decide)]
          have w2 := w.2.1
          refine ⟨hs.fr hFT, w, dw2, ⟨?_, ?_, ?_, fun s hs => ?_⟩, fun s hs => ?_, fun h h8 => ?_, ?_, ?_, fun t ht => ?_, ?_, ?_⟩
          · show mI M55 44 5 = _
            rw [g44]; exact V.1
          · show mI M55 44 10 = _
            rw [g44]; exact V.2.1
          · have e47 : mI M55 47 = mI M 47 := hFT.2.1 47 (by decide)
            show ∀ t, t < zN σ → mI M55 47 (4 * t) = nI (zk σ t) ∧ mI M55 47 (4 * t + 1) = zp σ t ∧ mI M55 47 (4 * t + 2) = zr σ t ∧ mI M55 47 (4 * t + 3) = zf σ t
            rw [e47]; exact V.2.2.1
          · show mI M55 50 (4 * s) = _ ∧ mI M55 50 (4 * s + 1) = _
            rw [e58 _ (by omega), e58 _ (by omega)]; exact ⟨(q1 s hs).1, (q1 s hs).2.1⟩
          · show mI M55 50 (4 * s + 2) = _ ∧ mI M55 50 (4 * s + 3) = _
            rw [e58 _ (by omega), e58 _ (by omega)]; exact (q1 s hs).2.2
          · show mI M55 49 h = _
            rw [f55.2.1 49 (by decide), f44.2.1 49 (by decide), k33 h h8]; exact q2 h h8
          · show ∀ h, h < 8 → mI M55 44 26 >>> (nI h &&& 31) &&& 1 = yd δ2 h
            rw [g44]; exact q3
          · show ∀ t, t < zN σ → mI M55 44 27 >>> (nI t &&& 31) &&& 1 = yq δ2 t
            rw [g44]; exact q4
          · show mI M55 48 t = _
            rw [f55.2.1 48 (by decide), k44 t (by have := w.1; omega), f33.2.1 57 (by decide)]; exact q5 t ht
          · show mI M55 44 24 = _
            rw [g44]; exact q6
          · show mI M55 44 25 = _
            rw [g44]; exact q7
        · simp only [mI_sI]
          rw [va_up_ne _ _ k1, va_up_ne _ _ k4, va_up_ne _ _ k3, va_up_ne _ _ k2, g44])
    · skip
      refine r_bipush (v := -103) dX9_restore_22 (by decide) ?_
      exact r_iret dX9_restore_24 ⟨_, rfl, fun z => absurd z.2 c19, fun _ => ⟨rfl, rfl⟩⟩
def rmX9_blank : Room := { frames := 0, cells := 0, slots := 0, locals := 0 }
set_option maxHeartbeats 4000000 in
set_option maxRecDepth 100000 in
theorem kX9_blank (g : Gx) (M : Mm) (hs : St M) : Ct g yX9_blank cX9_blank 2 (Option.some FieldType.int) rmX9_blank [.ref (g.1 + 44)] M (pI fun r M' => M' = sI M 44 1 0 ∧ r = mI M 44 1) := by
  refine Ct.of rfl (Nat.le_of_ble_eq_true rfl) (fun x => ?_)
  refine r_aload_n dX9_blank_0 rfl ?_
  refine r_getI flX9_59_9 rfl (hs.lt (by decide)) (hs.T 44 rfl) dX9_blank_1 ?_
  refine r_istore_n dX9_blank_4 (by decide) rfl ?_
  refine r_aload_n dX9_blank_5 rfl ?_
  refine r_iconst (v := 0) dX9_blank_6 (by decide) ?_
  refine r_putI fpX9_59_9 rfl (hs.lt (by decide)) (hs.T 44 rfl) rfl rfl dX9_blank_7 ?_
  refine r_iload_n dX9_blank_10 rfl ?_
  exact r_iret dX9_blank_11 ⟨_, rfl, rfl, rfl⟩
def rmX9_letters : Room := { frames := 0, cells := 0, slots := 0, locals := 0 }
theorem byL (a : Int64) : (a &&& 255).toInt32 = nI (a.toUInt64.toNat % 256) := by
  have h := byE a 0 (by decide)
  rw [show ((8 * nI 0).toInt64.toUInt64 &&& Int64.toUInt64 63) = 0 by decide, UInt64.shiftRight_zero] at h
  rw [Int64.toInt32_and, show (255 : Int64).toInt32 = 255 from rfl]
  show a.toUInt64.toInt64.toInt32 &&& 255 = _
  rw [h, byN, Nat.pow_zero, Nat.div_one]
theorem byM (z : Int64) {k : Nat} (h : k < 8) : ((z.toUInt64 >>> ((8 * nI k).toInt64.toUInt64 &&& Int64.toUInt64 63)).toInt64 &&& 255).toInt32 = nI (byN z k) := by
  rw [Int64.toInt32_and, show (255 : Int64).toInt32 = 255 from rfl]
  exact byE z k h
theorem by8 (a : Int64) : (a.toUInt64 >>> ((8 : Int32).toInt64.toUInt64 &&& Int64.toUInt64 63)).toInt64.toUInt64.toNat = a.toUInt64.toNat / 256 := by
  show (a.toUInt64 >>> ((8 : Int32).toInt64.toUInt64 &&& Int64.toUInt64 63)).toNat = _
  rw [UInt64.toNat_shiftRight, show (((8 : Int32).toInt64.toUInt64 &&& Int64.toUInt64 63).toNat % 64) = 8 by decide, Nat.shiftRight_eq_div_pow]
set_option maxHeartbeats 4000000 in
set_option maxRecDepth 100000 in
theorem lp_rlet2 (g : Gx) (x : Cx) (M : Mm) (hs : St M) (z : Int64) (pg : Rw) (pn : Nat) (hpn : mI M 44 1 = nI pn) (h40 : pn ≤ 40) (hpg : ∀ k, k < pn → mI M 45 k = pg k) (hg : gdB z) (hfit : pn + cnB z 8 ≤ 40) : ∀ (n : Nat) (i : Nat) (v : Int32) (M1 : Mm), i ≤ cnB z 8 → cnB z 8 - i < n → v = nI i → Fr [44, 45] [] M M1 → mI M1 44 1 = nI (pn + i) → (∀ k, k < pn + i → mI M1 45 k = letG z pn pg k) → (∀ k, k ≠ 1 → mI M1 44 k = mI M 44 k) → Vj x g yX9_letters cX9_letters 9 (Option.some FieldType.int) rmX9_letters (Qm x g rmX9_letters.cells rmX9_letters.slots (pI fun r M' => Fr [44, 45] [] M M' ∧ r = letR z pn ∧ mI M' 44 1 = nI (letN z pn) ∧ (∀ k, k < letN z pn → mI M' 45 k = letG z pn pg k) ∧ ∀ k, k ≠ 1 → mI M' 44 k = mI M 44 k)) 0 0 M1 108 [(0, some (.ref (g.1 + 44))), (1, some (.long z)), (3, some (.int (nI (cnB z 8)))), (7, some (.int v))] [] := by
  intro n
  induction n with
  | zero => intro i v M1 hi8 hn hv hF hsz hA ek; omega
  | succ n ih =>
    intro i v M1 hi8 hn hv hF hsz hA ek
    have hs1 := hs.fr hF
    subst hv
    have hv : nI i = nI i := rfl
    refine r_iload dX9_letters_108 rfl ?_
    refine r_iload_n dX9_letters_110 rfl ?_
    refine r_icmp_ge 151 dX9_letters_111 (by decide) (fun c111 => ?_) (fun c111 => ?_)
    · skip
      have e0 := lp_ge (n := cnB z 8) hv rfl c111 hi8 (by have := cnB_le z 8; omega)
      subst e0
      refine r_aload_n dX9_letters_151 rfl ?_
      refine r_getI flX9_59_9 rfl (hs1.lt (by decide)) (hs1.T 44 rfl) dX9_letters_152 ?_
      exact r_iret dX9_letters_155 ⟨_, rfl, hF, by rw [hsz, (let_ok hg hfit).1], by rw [hsz, (let_ok hg hfit).2], fun k hk => by rw [(let_ok hg hfit).2] at hk; exact hA k hk, ek⟩
    · skip
      have hi : i < cnB z 8 := lp_lt (n := cnB z 8) hv rfl c111 hi8 (by have := cnB_le z 8; omega)
      have h8 : i < 8 := Nat.lt_of_lt_of_le hi (cnB_le z 8)
      refine r_aload_n dX9_letters_114 rfl ?_
      refine r_getR flX9_7_9 rfl (hs1.lt (by decide)) (hs1.T 44 rfl) (hs1.R 44 0 rfl) dX9_letters_115 ?_
      refine r_aload_n dX9_letters_118 rfl ?_
      refine r_getI flX9_59_9 rfl (hs1.lt (by decide)) (hs1.T 44 rfl) dX9_letters_119 ?_
      refine r_lload_n dX9_letters_122 rfl ?_
      refine r_bipush (v := 8) dX9_letters_123 (by decide) ?_
      refine r_iload dX9_letters_125 rfl ?_
      refine r_imul dX9_letters_127 ?_
      refine r_lushr dX9_letters_128 ?_
      refine r_ldc2_w (v := 255) dX9_letters_129 tw740 ?_
      refine r_land dX9_letters_132 ?_
      refine r_l2i dX9_letters_133 ?_
      refine r_ias (hs1.T 45 rfl) (hs1.lt (by decide)) (ix_of hsz (by omega) (by decide)) dX9_letters_134 ?_
      refine r_aload_n dX9_letters_135 rfl ?_
      refine r_dup dX9_letters_136 rfl ?_
      refine r_getI flX9_59_9 rfl (hs1.lt (by decide)) (hs1.T 44 rfl) dX9_letters_137 ?_
      refine r_iconst (v := 1) dX9_letters_140 (by decide) ?_
      refine r_iadd dX9_letters_141 ?_
      refine r_putI fpX9_59_9 rfl (hs1.lt (by decide)) (hs1.T 44 rfl) rfl rfl dX9_letters_142 ?_
      refine r_iinc dX9_letters_145 rfl rfl rfl ?_
      refine r_goto 108 dX9_letters_148 (by decide) ?_
      exact r_lv (lvSc rfl (lvSc rfl (lvSc rfl (lvSc rfl lvS0)))) (ih (i + 1) _ _ (by omega) (by omega) (nI_inc rfl) ((hF.sI (by simp)).sI (by simp)) (by rw [mI_sI, va_up_self, mI_sI_ne (by decide), hsz]; exact nI_1 _) (fun k hk => by
        rw [mI_sI_ne (by decide), mI_sI, va_up_if]
        by_cases e : k = pn + i
        · rw [if_pos e, e, byM z h8]; unfold letG; rw [if_neg (by omega), show pn + i - pn = i by omega]
        · rw [if_neg e]; exact hA k (by omega)) (fun k hk => by rw [mI_sI, va_up_ne _ _ hk, mI_sI_ne (by decide)]; exact ek k hk))
set_option maxHeartbeats 4000000 in
set_option maxRecDepth 100000 in
theorem lp_rlet (g : Gx) (x : Cx) (M : Mm) (hs : St M) (z : Int64) (pg : Rw) (pn : Nat) (hpn : mI M 44 1 = nI pn) (h40 : pn ≤ 40) (hpg : ∀ k, k < pn → mI M 45 k = pg k) : ∀ (n : Nat) (i : Nat) (v mn gd : Int32) (lf : Int64), i ≤ 8 → 8 - i < n → v = nI i → lf.toUInt64.toNat = z.toUInt64.toNat / 256 ^ i → mn = nI (cnB z i) → ((gd = 1 ∧ ∀ k, k < i → okB z k) ∨ (gd = 0 ∧ ¬ ∀ k, k < i → okB z k)) → Vj x g yX9_letters cX9_letters 9 (Option.some FieldType.int) rmX9_letters (Qm x g rmX9_letters.cells rmX9_letters.slots (pI fun r M' => Fr [44, 45] [] M M' ∧ r = letR z pn ∧ mI M' 44 1 = nI (letN z pn) ∧ (∀ k, k < letN z pn → mI M' 45 k = letG z pn pg k) ∧ ∀ k, k ≠ 1 → mI M' 44 k = mI M 44 k)) 0 0 M 11 [(0, some (.ref (g.1 + 44))), (1, some (.long z)), (3, some (.int mn)), (4, some (.int gd)), (5, some (.long lf)), (7, some (.int v))] [] := by
  intro n
  induction n with
  | zero => intro i v mn gd lf hi8 hn hv hlf hmn hgd; omega
  | succ n ih =>
    intro i v mn gd lf hi8 hn hv hlf hmn hgd
    subst hv
    have hv : nI i = nI i := rfl
    subst hmn
    refine r_iload dX9_letters_11 rfl ?_
    refine r_bipush (v := 8) dX9_letters_13 (by decide) ?_
    refine r_icmp_ge 83 dX9_letters_15 (by decide) (fun c15 => ?_) (fun c15 => ?_)
    · skip
      have e0 := lp_ge (n := 8) hv rfl c15 hi8 (by decide)
      subst e0
      refine r_iload dX9_letters_83 rfl ?_
      refine r_if_ne 91 dX9_letters_85 (by decide) (fun c85 => ?_) (fun c85 => ?_)
      · skip
        have hg : gdB z := (hgd.resolve_right (fun y => c85 y.1)).2
        have hc8 := cnB_le z 8
        refine r_aload_n dX9_letters_91 rfl ?_
        refine r_getI flX9_59_9 rfl (hs.lt (by decide)) (hs.T 44 rfl) dX9_letters_92 ?_
        refine r_iload_n dX9_letters_95 rfl ?_
        refine r_iadd dX9_letters_96 ?_
        refine r_bipush (v := 40) dX9_letters_97 (by decide) ?_
        refine r_icmp_le 105 dX9_letters_99 (by decide) (fun c99 => ?_) (fun c99 => ?_)
        · skip
          have hfit : pn + cnB z 8 ≤ 40 := by rw [hpn, nI_add] at c99; exact (nI_leI (b := 40) (by omega) (by decide)).mp c99
          refine r_iconst (v := 0) dX9_letters_105 (by decide) ?_
          refine r_istore dX9_letters_106 (by decide) rfl ?_
          exact r_lv (lvSc rfl (lvSc rfl (lvSc rfl (lvSc rfl lvS0)))) (lp_rlet2 g x M hs z pg pn hpn h40 hpg hg hfit (cnB z 8 + 1) 0 0 M (by omega) (by omega) rfl (Fr.rf _ _ _) hpn (fun k hk => by rw [letG_lt (show k < pn from hk)]; exact hpg k hk) (fun _ _ => rfl))
        · skip
          have hfit : ¬ pn + cnB z 8 ≤ 40 := fun q => c99 (by rw [hpn, nI_add]; exact nI_le (b := 40) q (by decide))
          refine r_bipush (v := -104) dX9_letters_102 (by decide) ?_
          exact r_iret dX9_letters_104 ⟨_, rfl, Fr.rf _ _ _, (let_full hg hfit).1.symm, by rw [(let_full hg hfit).2]; exact hpn, fun k hk => by rw [(let_full hg hfit).2] at hk; rw [letG_lt hk]; exact hpg k hk, fun _ _ => rfl⟩
      · skip
        have hg : ¬ gdB z := (hgd.resolve_left (fun y => absurd (y.1.symm.trans c85) (by decide))).2
        refine r_bipush (v := -102) dX9_letters_88 (by decide) ?_
        exact r_iret dX9_letters_90 ⟨_, rfl, Fr.rf _ _ _, (let_bad hg).1.symm, by rw [(let_bad hg).2]; exact hpn, fun k hk => by rw [(let_bad hg).2] at hk; rw [letG_lt hk]; exact hpg k hk, fun _ _ => rfl⟩
    · skip
      have hi : i < 8 := lp_lt (n := 8) hv rfl c15 hi8 (by decide)
      have hcl := cnB_le z i
      have hbl := byN_lt z i
      have hby : (lf &&& 255).toInt32 = nI (byN z i) := by rw [byL, hlf]; rfl
      refine r_lload dX9_letters_18 rfl ?_
      refine r_ldc2_w (v := 255) dX9_letters_20 tw740 ?_
      refine r_land dX9_letters_23 ?_
      refine r_l2i dX9_letters_24 ?_
      refine r_istore dX9_letters_25 (by decide) rfl ?_
      refine r_lload dX9_letters_27 rfl ?_
      refine r_bipush (v := 8) dX9_letters_29 (by decide) ?_
      refine r_lushr dX9_letters_31 ?_
      refine r_lstore dX9_letters_32 (by decide) rfl ?_
      rw [hby]
      refine r_dia (P := fun u => (u = 1 ∧ (∀ k, k < i + 1 → okB z k)) ∨ (u = 0 ∧ ¬ (∀ k, k < i + 1 → okB z k))) 62 (fun u hu => ?_) (fun hJ62 => ?_)
      · skip
        refine r_istore dX9_letters_62 (by decide) rfl ?_
        refine r_iload_n dX9_letters_64 rfl ?_
        refine r_dia (P := fun y => y = (if byN z i = 0 then (0 : Int32) else 1)) 75 (fun y hy => ?_) (fun hJ75 => ?_)
        · skip
          refine r_iadd dX9_letters_75 ?_
          refine r_istore_n dX9_letters_76 (by decide) rfl ?_
          refine r_iinc dX9_letters_77 rfl rfl rfl ?_
          refine r_goto 11 dX9_letters_80 (by decide) ?_
          exact r_lv (lvSc rfl (lvSc rfl (lvSc rfl (lvSc rfl (lvSc rfl (lvSc rfl lvS0)))))) (ih (i + 1) _ _ _ _ (by omega) (by omega) (nI_inc rfl) (by rw [by8, hlf, Nat.div_div_eq_div_mul, Nat.pow_succ]) (by rw [hy, cnB]; split; exact Int32.add_zero _; exact nI_1 _) hu)
        · skip
          refine r_iload dX9_letters_65 rfl ?_
          refine r_if_le 74 dX9_letters_67 (by decide) (fun c67 => ?_) (fun c67 => ?_)
          · skip
            have hfin : (0 : Int32) = (if byN z i = 0 then (0 : Int32) else 1) := by
              have : byN z i ≤ 0 := (nI_leI (b := 0) (by omega) (by decide)).mp c67
              rw [if_pos (by omega)]
            refine r_iconst (v := 0) dX9_letters_74 (by decide) ?_
            exact hJ75 _ hfin
          · skip
            have hfin : (1 : Int32) = (if byN z i = 0 then (0 : Int32) else 1) := by
              rw [if_neg (fun q => c67 (by rw [q]; exact Int32.le_refl _))]
            refine r_iconst (v := 1) dX9_letters_70 (by decide) ?_
            refine r_goto 75 dX9_letters_71 (by decide) ?_
            exact hJ75 _ hfin
      · skip
        refine r_iload dX9_letters_34 rfl ?_
        refine r_if_eq 61 dX9_letters_36 (by decide) (fun c36 => ?_) (fun c36 => ?_)
        · skip
          have hfin : ((0 : Int32) = 1 ∧ (∀ k, k < i + 1 → okB z k)) ∨ ((0 : Int32) = 0 ∧ ¬ (∀ k, k < i + 1 → okB z k)) := Or.inr ⟨rfl, fun q => (hgd.resolve_left (fun y => absurd (y.1.symm.trans c36) (by decide))).2 (fun k hk => q k (by omega))⟩
          refine r_iconst (v := 0) dX9_letters_61 (by decide) ?_
          exact hJ62 _ hfin
        · skip
          have hA := (hgd.resolve_right (fun y => c36 y.1)).2
          refine r_iload dX9_letters_39 rfl ?_
          refine r_bipush (v := 126) dX9_letters_41 (by decide) ?_
          refine r_icmp_gt 61 dX9_letters_43 (by decide) (fun c43 => ?_) (fun c43 => ?_)
          · skip
            have hfin : ((0 : Int32) = 1 ∧ (∀ k, k < i + 1 → okB z k)) ∨ ((0 : Int32) = 0 ∧ ¬ (∀ k, k < i + 1 → okB z k)) := Or.inr ⟨rfl, fun q => by have := (nI_ltI (a := 126) (by decide) (by omega)).mp c43; have := (q i (by omega)).1; omega⟩
            refine r_iconst (v := 0) dX9_letters_61 (by decide) ?_
            exact hJ62 _ hfin
          · skip
            have h126 : byN z i ≤ 126 := by rcases Nat.lt_or_ge 126 (byN z i) with q | q; exact absurd (nI_lt (a := 126) q (by omega)) c43; exact q
            refine r_iload dX9_letters_46 rfl ?_
            refine r_if_eq 57 dX9_letters_48 (by decide) (fun c48 => ?_) (fun c48 => ?_)
            · skip
              have hz : byN z i = 0 := (nI_eq (b := 0) (by omega) (by decide)).mp c48
              have hfin : ((1 : Int32) = 1 ∧ (∀ k, k < i + 1 → okB z k)) ∨ ((1 : Int32) = 0 ∧ ¬ (∀ k, k < i + 1 → okB z k)) := Or.inl ⟨rfl, fun k hk => by rcases Nat.lt_or_ge k i with q | q; exact hA k q; rw [show k = i by omega]; exact ⟨h126, Or.inl hz⟩⟩
              refine r_iconst (v := 1) dX9_letters_57 (by decide) ?_
              refine r_goto 62 dX9_letters_58 (by decide) ?_
              exact hJ62 _ hfin
            · skip
              have hz : ¬ byN z i = 0 := fun q => c48 (by rw [q]; rfl)
              refine r_iload_n dX9_letters_51 rfl ?_
              refine r_iload dX9_letters_52 rfl ?_
              refine r_icmp_ne 61 dX9_letters_54 (by decide) (fun c54 => ?_) (fun c54 => ?_)
              · skip
                have hfin : ((0 : Int32) = 1 ∧ (∀ k, k < i + 1 → okB z k)) ∨ ((0 : Int32) = 0 ∧ ¬ (∀ k, k < i + 1 → okB z k)) := Or.inr ⟨rfl, fun q => c54 (by rw [(q i (by omega)).2.resolve_left hz])⟩
                refine r_iconst (v := 0) dX9_letters_61 (by decide) ?_
                exact hJ62 _ hfin
              · skip
                have hfin : ((1 : Int32) = 1 ∧ (∀ k, k < i + 1 → okB z k)) ∨ ((1 : Int32) = 0 ∧ ¬ (∀ k, k < i + 1 → okB z k)) := Or.inl ⟨rfl, fun k hk => by rcases Nat.lt_or_ge k i with q | q; exact hA k q; rw [show k = i by omega]; exact ⟨h126, Or.inr ((nI_eq (by omega) (by omega)).mp c54)⟩⟩
                refine r_iconst (v := 1) dX9_letters_57 (by decide) ?_
                refine r_goto 62 dX9_letters_58 (by decide) ?_
                exact hJ62 _ hfin
set_option maxHeartbeats 4000000 in
set_option maxRecDepth 100000 in
theorem kX9_letters (g : Gx) (M : Mm) (hs : St M) (z : Int64) (pg : Rw) (pn : Nat) (hpn : mI M 44 1 = nI pn) (h40 : pn ≤ 40) (hpg : ∀ k, k < pn → mI M 45 k = pg k) : Ct g yX9_letters cX9_letters 9 (Option.some FieldType.int) rmX9_letters [.ref (g.1 + 44), .long z] M (pI fun r M' => Fr [44, 45] [] M M' ∧ r = letR z pn ∧ mI M' 44 1 = nI (letN z pn) ∧ (∀ k, k < letN z pn → mI M' 45 k = letG z pn pg k) ∧ ∀ k, k ≠ 1 → mI M' 44 k = mI M 44 k) := by
  refine Ct.of rfl (Nat.le_of_ble_eq_true rfl) (fun x => ?_)
  refine r_iconst (v := 0) dX9_letters_0 (by decide) ?_
  refine r_istore_n dX9_letters_1 (by decide) rfl ?_
  refine r_iconst (v := 1) dX9_letters_2 (by decide) ?_
  refine r_istore dX9_letters_3 (by decide) rfl ?_
  refine r_lload_n dX9_letters_5 rfl ?_
  refine r_lstore dX9_letters_6 (by decide) rfl ?_
  refine r_iconst (v := 0) dX9_letters_8 (by decide) ?_
  refine r_istore dX9_letters_9 (by decide) rfl ?_
  exact r_lv (lvSc rfl (lvSc rfl (lvSc rfl (lvSc rfl (lvSc rfl (lvSc rfl lvS0)))))) (lp_rlet g x M hs z pg pn hpn h40 hpg 9 0 0 0 1 z (by omega) (by omega) rfl (by rw [Nat.pow_zero, Nat.div_one]) rfl (Or.inl ⟨rfl, fun k hk => by omega⟩))
