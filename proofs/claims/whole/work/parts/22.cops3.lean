theorem CA.spoon {σ : Ab} {δ : Dy} {M : Mm} (h : CA σ δ M) (h8 : zS σ < 8) {t v : Int32} (ht : hs8 t) (h1 : 1 ≤ v) (h99 : v ≤ 99) :
    CA (zN σ, zS σ + 1, zk σ, zp σ, zr σ, zf σ, va_up (zw σ) (zS σ) v, va_up (zo σ) (zS σ) t) (va_up (yp δ) (zS σ) t, va_up (ye δ) (zS σ) (-1), yl δ, yd δ, yq δ, yt δ, ym δ, yf δ) (sI (sI (sI (sI (sI M 9 (zS σ) v) 10 (zS σ) t) 12 (zS σ) t) 13 (zS σ) (-1)) 0 13 (nI (zS σ + 1))) := by
  obtain ⟨hs, ⟨w1, w2, w3, w4⟩, ⟨d1, d2, d3, d4⟩, ⟨v1, v2, v3, v4⟩, ⟨⟨a1, a2, a3, a4⟩, a5, a6, a7, a8, a9⟩⟩ := h
  generalize hM' : sI (sI (sI (sI (sI M 9 (zS σ) v) 10 (zS σ) t) 12 (zS σ) t) 13 (zS σ) (-1)) 0 13 (nI (zS σ + 1)) = M'
  have hSm : Sm M M' := by rw [← hM']; exact ⟨rfl, rfl, rfl⟩
  have e9 : mI M' 9 = va_up (mI M 9) (zS σ) v := by rw [← hM', mI_sI_ne (by decide), mI_sI_ne (by decide), mI_sI_ne (by decide), mI_sI_ne (by decide), mI_sI]
  have e10 : mI M' 10 = va_up (mI M 10) (zS σ) t := by rw [← hM', mI_sI_ne (by decide), mI_sI_ne (by decide), mI_sI_ne (by decide), mI_sI, mI_sI_ne (by decide)]
  have e12 : mI M' 12 = va_up (mI M 12) (zS σ) t := by rw [← hM', mI_sI_ne (by decide), mI_sI_ne (by decide), mI_sI, mI_sI_ne (by decide), mI_sI_ne (by decide)]
  have e13 : mI M' 13 = va_up (mI M 13) (zS σ) (-1) := by rw [← hM', mI_sI_ne (by decide), mI_sI, mI_sI_ne (by decide), mI_sI_ne (by decide), mI_sI_ne (by decide)]
  have e0 : mI M' 0 = va_up (mI M 0) 13 (nI (zS σ + 1)) := by rw [← hM', mI_sI, mI_sI_ne (by decide), mI_sI_ne (by decide), mI_sI_ne (by decide), mI_sI_ne (by decide)]
  have eo : ∀ b, b ≠ 0 → b ≠ 9 → b ≠ 10 → b ≠ 12 → b ≠ 13 → mI M' b = mI M b := by
    intro b b0 b9 b10 b12 b13
    rw [← hM', mI_sI_ne b0, mI_sI_ne b13, mI_sI_ne b12, mI_sI_ne b10, mI_sI_ne b9]
  clear hM'
  have up : ∀ {f h : Rw} {u : Int32}, (∀ s, s < zS σ → f s = h s) → ∀ s, s < zS σ + 1 → va_up f (zS σ) u s = va_up h (zS σ) u s := by
    intro f h u e s hs
    rw [va_up_if, va_up_if]
    split
    · rfl
    · exact e s (by omega)
  refine ⟨hs.sm hSm, ⟨w1, by show zS σ + 1 ≤ 8; omega, w3, fun s hs2 => ?_⟩, ⟨d1, fun s hs2 => ?_, d3, d4⟩, ⟨?_, ?_, fun u hu => ?_, fun s hs2 => ?_⟩, ⟨fun s hs2 => ?_, fun u hu => ?_, fun u hu => ?_, fun u hu => ?_⟩, fun s hs2 => ?_, fun u hu => ?_, ?_, ?_, fun u hu => ?_⟩
  · show 1 ≤ va_up (zw σ) (zS σ) v s ∧ va_up (zw σ) (zS σ) v s ≤ 99 ∧ hs8 (va_up (zo σ) (zS σ) t s)
    have hs3 : s < zS σ + 1 := hs2
    rw [va_up_if, va_up_if]
    split
    · exact ⟨h1, h99, ht⟩
    · exact w4 s (by omega)
  · show hs8 (va_up (yp δ) (zS σ) t s)
    have hs3 : s < zS σ + 1 := hs2
    rw [va_up_if]
    split
    · exact ht
    · exact d2 s (by omega)
  · show mI M' 0 12 = nI (zN σ)
    rw [e0, va_up_ne _ _ (by decide)]; exact v1
  · show mI M' 0 13 = nI (zS σ + 1)
    rw [e0, va_up_self]
  · have h4 := hs.2.2.2 u (by have : u < zN σ := hu; omega)
    rw [hSm.kd, hSm.ti, eo _ (by omega) (by omega) (by omega) (by omega) (by omega)]
    exact v3 u hu
  · show mI M' 9 s = va_up (zw σ) (zS σ) v s ∧ mI M' 10 s = va_up (zo σ) (zS σ) t s
    rw [e9, e10]
    exact ⟨up (fun s hs => (v4 s hs).1) s hs2, up (fun s hs => (v4 s hs).2) s hs2⟩
  · show mI M' 12 s = va_up (yp δ) (zS σ) t s
    rw [e12]; exact up a1 s hs2
  · rw [eo _ (by decide) (by decide) (by decide) (by decide) (by decide)]; exact a2 u hu
  · rw [eo _ (by decide) (by decide) (by decide) (by decide) (by decide)]; exact a3 u hu
  · rw [eo _ (by decide) (by decide) (by decide) (by decide) (by decide)]; exact a4 u hu
  · show mI M' 13 s = va_up (ye δ) (zS σ) (-1) s
    rw [e13]; exact up a5 s hs2
  · rw [eo _ (by decide) (by decide) (by decide) (by decide) (by decide)]; exact a6 u hu
  · rw [eo _ (by decide) (by decide) (by decide) (by decide) (by decide)]; exact a7
  · rw [eo _ (by decide) (by decide) (by decide) (by decide) (by decide)]; exact a8
  · rw [eo _ (by decide) (by decide) (by decide) (by decide) (by decide), eo _ (by decide) (by decide) (by decide) (by decide) (by decide)]; exact a9 u hu
theorem CA.f0 {σ : Ab} {δ : Dy} {M : Mm} (h : CA σ δ M) {k : Nat} {v : Int32} (h12 : k ≠ 12) (h13 : k ≠ 13) : CA σ δ (sI M 0 k v) := by
  obtain ⟨hs, w, d, ⟨v1, v2, v3, v4⟩, cc⟩ := h
  refine ⟨hs, w, d, ⟨?_, ?_, fun u hu => ?_, v4⟩, cc⟩
  · rw [mI_sI, va_up_ne _ _ (fun e => h12 e.symm)]; exact v1
  · rw [mI_sI, va_up_ne _ _ (fun e => h13 e.symm)]; exact v2
  · have h4 := hs.2.2.2 u (by have := w.1; omega)
    show kdT M u = _ ∧ mI (sI M 0 k v) (thi M u) 0 = _ ∧ mI (sI M 0 k v) (thi M u) 1 = _ ∧ mI (sI M 0 k v) (thi M u) 2 = _
    rw [mI_sI_ne (by omega)]
    exact v3 u hu
def rmX8_spoon : Room := { frames := 1, cells := 0, slots := 0, locals := 20 }
set_option maxHeartbeats 4000000 in
set_option maxRecDepth 100000 in
theorem kX8_spoon (g : Gx) (M : Mm) (σ : Ab) (δ : Dy) (K : CA σ δ M) (t v : Int32) : Ct g yX8_spoon cX8_spoon 3 (Option.some FieldType.int) rmX8_spoon [.ref (g.1 + 0), .int t, .int v] M (pI fun r M' => Fr [0, 9, 10, 12, 13] [] M M' ∧ r = spoR σ t v ∧ CA (spoS σ t v) (spoD σ δ t v) M' ∧ ∀ k, k ≠ 13 → mI M' 0 k = mI M 0 k) := by
  obtain ⟨hs, w, dw, V, D, D2, D3, D4, D5, D6⟩ := id K
  refine Ct.of rfl (Nat.le_of_ble_eq_true rfl) (fun x => ?_)
  refine r_iload_n dX8_spoon_0 rfl ?_
  refine r_cS1i csX8_157 (kX8_isHouse g M t) hs.pos ⟨Nat.le_of_ble_eq_true rfl, Nat.le_of_ble_eq_true rfl⟩ (Nat.le_of_ble_eq_true rfl) ⟨Nat.le_of_ble_eq_true rfl, Nat.le_of_ble_eq_true rfl⟩ dX8_spoon_1 (fun r1 M1 h1 => ?_)
  obtain ⟨e1, h1⟩ := h1
  replace e1 := e1.symm
  subst e1
  refine r_if_ne 10 dX8_spoon_4 (by decide) (fun c4 => ?_) (fun c4 => ?_)
  · skip
    refine r_iload_n dX8_spoon_10 rfl ?_
    refine r_iconst (v := 1) dX8_spoon_11 (by decide) ?_
    refine r_icmp_lt 21 dX8_spoon_12 (by decide) (fun c12 => ?_) (fun c12 => ?_)
    · skip
      refine r_bipush (v := -102) dX8_spoon_21 (by decide) ?_
      exact r_iret dX8_spoon_23 ⟨_, rfl, Fr.rf _ _ _, by rw [spoR, if_pos (one_of h1 c4), if_neg (by grind)], by rw [spoS, spoD, if_neg (by grind), if_neg (by grind)]; exact K, fun _ _ => rfl⟩
    · skip
      refine r_iload_n dX8_spoon_15 rfl ?_
      refine r_bipush (v := 99) dX8_spoon_16 (by decide) ?_
      refine r_icmp_le 24 dX8_spoon_18 (by decide) (fun c18 => ?_) (fun c18 => ?_)
      · skip
        refine r_aload_n dX8_spoon_24 rfl ?_
        refine r_getI flX8_66_8 rfl (hs.lt (by decide)) (hs.T 0 rfl) dX8_spoon_25 ?_
        refine r_bipush (v := 8) dX8_spoon_28 (by decide) ?_
        refine r_icmp_lt 36 dX8_spoon_30 (by decide) (fun c30 => ?_) (fun c30 => ?_)
        · skip
          have hS8 : zS σ < 8 := by rw [V.2.1] at c30; exact (nI_ltI (b := 8) (by have := w.2.1; omega) (by decide)).mp c30
          obtain ⟨j, hj, ej⟩ := ix_ex (n := 8) (by decide) (one_of h1 c4).1 (one_of h1 c4).2
          refine r_aload_n dX8_spoon_36 rfl ?_
          refine r_getR flX8_29_8 rfl (hs.lt (by decide)) (hs.T 0 rfl) (hs.R 0 3 rfl) dX8_spoon_37 ?_
          refine r_aload_n dX8_spoon_40 rfl ?_
          refine r_getI flX8_66_8 rfl (hs.lt (by decide)) (hs.T 0 rfl) dX8_spoon_41 ?_
          refine r_iload_n dX8_spoon_44 rfl ?_
          refine r_ias (hs.T 9 rfl) (hs.lt (by decide)) (ix_of V.2.1 hS8 (by decide)) dX8_spoon_45 ?_
          refine r_aload_n dX8_spoon_46 rfl ?_
          refine r_getR flX8_33_8 rfl (hs.lt (by decide)) (hs.T 0 rfl) (hs.R 0 4 rfl) dX8_spoon_47 ?_
          refine r_aload_n dX8_spoon_50 rfl ?_
          refine r_getI flX8_66_8 rfl (hs.lt (by decide)) (hs.T 0 rfl) dX8_spoon_51 ?_
          refine r_iload_n dX8_spoon_54 rfl ?_
          refine r_ias (hs.T 10 rfl) (hs.lt (by decide)) (ix_of V.2.1 hS8 (by decide)) dX8_spoon_55 ?_
          refine r_aload_n dX8_spoon_56 rfl ?_
          refine r_getR flX8_39_8 rfl (hs.lt (by decide)) (hs.T 0 rfl) (hs.R 0 5 rfl) dX8_spoon_57 ?_
          refine r_getR flX8_166_1 rfl (hs.lt (by decide)) (hs.T 11 rfl) (hs.R 11 0 rfl) dX8_spoon_60 ?_
          refine r_aload_n dX8_spoon_63 rfl ?_
          refine r_getI flX8_66_8 rfl (hs.lt (by decide)) (hs.T 0 rfl) dX8_spoon_64 ?_
          refine r_iload_n dX8_spoon_67 rfl ?_
          refine r_ias (hs.T 12 rfl) (hs.lt (by decide)) (ix_of V.2.1 hS8 (by decide)) dX8_spoon_68 ?_
          refine r_aload_n dX8_spoon_69 rfl ?_
          refine r_getR flX8_39_8 rfl (hs.lt (by decide)) (hs.T 0 rfl) (hs.R 0 5 rfl) dX8_spoon_70 ?_
          refine r_getR flX8_169_1 rfl (hs.lt (by decide)) (hs.T 11 rfl) (hs.R 11 1 rfl) dX8_spoon_73 ?_
          refine r_aload_n dX8_spoon_76 rfl ?_
          refine r_getI flX8_66_8 rfl (hs.lt (by decide)) (hs.T 0 rfl) dX8_spoon_77 ?_
          refine r_iconst (v := -1) dX8_spoon_80 (by decide) ?_
          refine r_ias (hs.T 13 rfl) (hs.lt (by decide)) (ix_of V.2.1 hS8 (by decide)) dX8_spoon_81 ?_
          refine r_aload_n dX8_spoon_82 rfl ?_
          refine r_dup dX8_spoon_83 rfl ?_
          refine r_getI flX8_66_8 rfl (hs.lt (by decide)) (hs.T 0 rfl) dX8_spoon_84 ?_
          refine r_iconst (v := 1) dX8_spoon_87 (by decide) ?_
          refine r_iadd dX8_spoon_88 ?_
          refine r_putI fpX8_66_8 rfl (hs.lt (by decide)) (hs.T 0 rfl) rfl rfl dX8_spoon_89 ?_
          refine r_aload_n dX8_spoon_92 rfl ?_
          refine r_getI flX8_66_8 rfl (hs.lt (by decide)) (hs.T 0 rfl) dX8_spoon_93 ?_
          refine r_iconst (v := 1) dX8_spoon_96 (by decide) ?_
          refine r_isub dX8_spoon_97 ?_
          exact r_iret dX8_spoon_98 ⟨_, rfl, ((((((Fr.rf _ _ _).sI (by simp)).sI (by simp)).sI (by simp)).sI (by simp)).sI (by simp)), by
                rw [spoR, if_pos (one_of h1 c4), if_pos (by grind), if_pos hS8, mI_sI, va_up_self]
                show mI M 0 13 + 1 - 1 = _
                rw [V.2.1]; grind, by
                rw [spoS, spoD, if_pos ⟨one_of h1 c4, by grind, hS8⟩, if_pos ⟨one_of h1 c4, by grind, hS8⟩]
                have := K.spoon hS8 ⟨j, hj, ej⟩ (v := v) (by grind) (by grind)
                rw [← nI_1, ← V.2.1] at this
                exact this, fun k hk => by rw [mI_sI, va_up_ne _ _ hk]; rfl⟩
        · skip
          have hS8 : ¬ zS σ < 8 := fun q => c30 (by rw [V.2.1]; exact nI_lt (b := 8) q (by decide))
          refine r_bipush (v := -104) dX8_spoon_33 (by decide) ?_
          exact r_iret dX8_spoon_35 ⟨_, rfl, Fr.rf _ _ _, by rw [spoR, if_pos (one_of h1 c4), if_pos (by grind), if_neg hS8], by rw [spoS, spoD, if_neg (fun q => hS8 q.2.2), if_neg (fun q => hS8 q.2.2)]; exact K, fun _ _ => rfl⟩
      · skip
        refine r_bipush (v := -102) dX8_spoon_21 (by decide) ?_
        exact r_iret dX8_spoon_23 ⟨_, rfl, Fr.rf _ _ _, by rw [spoR, if_pos (one_of h1 c4), if_neg (by grind)], by rw [spoS, spoD, if_neg (by grind), if_neg (by grind)]; exact K, fun _ _ => rfl⟩
  · skip
    refine r_bipush (v := -101) dX8_spoon_7 (by decide) ?_
    exact r_iret dX8_spoon_9 ⟨_, rfl, Fr.rf _ _ _, by rw [spoR, if_neg (zero_of h1 c4)], by rw [spoS, spoD, if_neg (fun q => zero_of h1 c4 q.1), if_neg (fun q => zero_of h1 c4 q.1)]; exact K, fun _ _ => rfl⟩
def rmX8_image : Room := { frames := 1, cells := 0, slots := 0, locals := 22 }
set_option maxHeartbeats 4000000 in
set_option maxRecDepth 100000 in
theorem kX8_image (g : Gx) (M : Mm) (σ : Ab) (δ : Dy) (K : CA σ δ M) : Ct g yX8_image cX8_image 1 (Option.some FieldType.int) rmX8_image [.ref (g.1 + 0)] M (pI fun r M' => Fr (0 :: cF 18) [] M M' ∧ r = nI (zS σ) ∧ CA σ δ M' ∧ CC 18 M' σ δ ∧ mI M' 0 15 = 1 ∧ mI M' 0 16 = mI M 0 14 ∧ mI M' 0 17 = nI (zS σ) ∧ ∀ k, k < 15 → mI M' 0 k = mI M 0 k) := by
  obtain ⟨hs, w, dw, V, D, D2, D3, D4, D5, D6⟩ := id K
  refine Ct.of rfl (Nat.le_of_ble_eq_true rfl) (fun x => ?_)
  refine r_aload_n dX8_image_0 rfl ?_
  refine r_getR flX8_43_8 rfl (hs.lt (by decide)) (hs.T 0 rfl) (hs.R 0 6 rfl) dX8_image_1 ?_
  refine r_aload_n dX8_image_4 rfl ?_
  refine r_getR flX8_39_8 rfl (hs.lt (by decide)) (hs.T 0 rfl) (hs.R 0 5 rfl) dX8_image_5 ?_
  refine r_cV1v cvX8_188 (kX1_takeOver g M 18 11 (Or.inr (Or.inl rfl)) (Or.inl rfl) (by decide) hs D6) (hs.lt (by decide)) (hs.T 18 rfl) ⟨Nat.le_of_ble_eq_true rfl, Nat.le_of_ble_eq_true rfl⟩ (Nat.le_of_ble_eq_true rfl) ⟨Nat.le_of_ble_eq_true rfl, Nat.le_of_ble_eq_true rfl⟩ dX8_image_8 (fun M8 h8 => ?_)
  obtain ⟨hF, hcp, h6, h7⟩ := h8
  have CC2 := CC.copy w K.2.2.2.2 hcp h6 h7
  have K2 := K.fr hF (by intro a ha; rw [cF_in] at ha; unfold okK; omega)
  have e0 : mI M8 0 = mI M 0 := hF.2.1 0 (by rw [cF_in]; omega)
  refine r_aload_n dX8_image_11 rfl ?_
  refine r_iconst (v := 1) dX8_image_12 (by decide) ?_
  refine r_putI fpX8_72_8 rfl ((hs.fr hF).lt (by decide)) ((hs.fr hF).T 0 rfl) rfl rfl dX8_image_13 ?_
  refine r_aload_n dX8_image_16 rfl ?_
  refine r_aload_n dX8_image_17 rfl ?_
  refine r_getI flX8_69_8 rfl ((hs.fr hF).lt (by decide)) ((hs.fr hF).T 0 rfl) dX8_image_18 ?_
  refine r_putI fpX8_76_8 rfl ((hs.fr hF).lt (by decide)) ((hs.fr hF).T 0 rfl) rfl rfl dX8_image_21 ?_
  refine r_aload_n dX8_image_24 rfl ?_
  refine r_aload_n dX8_image_25 rfl ?_
  refine r_getI flX8_66_8 rfl ((hs.fr hF).lt (by decide)) ((hs.fr hF).T 0 rfl) dX8_image_26 ?_
  refine r_putI fpX8_79_8 rfl ((hs.fr hF).lt (by decide)) ((hs.fr hF).T 0 rfl) rfl rfl dX8_image_29 ?_
  refine r_aload_n dX8_image_32 rfl ?_
  refine r_getI flX8_66_8 rfl ((hs.fr hF).lt (by decide)) ((hs.fr hF).T 0 rfl) dX8_image_33 ?_
  exact r_iret dX8_image_36 ⟨_, rfl, (((hF.mono (is' := 0 :: cF 18) (ls' := []) (by intro a ha; exact List.mem_cons_of_mem _ ha) (by simp)).sI (by simp)).sI (by simp)).sI (by simp), by rw [mI_sI, va_up_ne _ _ (by decide), mI_sI, va_up_ne _ _ (by decide), mI_sI, va_up_ne _ _ (by decide)]; exact K2.2.2.2.1.2.1, ((K2.f0 (by decide) (by decide)).f0 (by decide) (by decide)).f0 (by decide) (by decide), CC2, by rw [mI_sI, va_up_ne _ _ (by decide), mI_sI, va_up_ne _ _ (by decide), mI_sI, va_up_self], by
        rw [mI_sI, va_up_ne _ _ (by decide), mI_sI, va_up_self, mI_sI, va_up_ne _ _ (by decide), e0], by
        rw [mI_sI, va_up_self, mI_sI, va_up_ne _ _ (by decide), mI_sI, va_up_ne _ _ (by decide)]; exact K2.2.2.2.1.2.1, fun k hk => by rw [mI_sI, va_up_ne _ _ (by omega), mI_sI, va_up_ne _ _ (by omega), mI_sI, va_up_ne _ _ (by omega), e0]⟩
def rmX8_restore : Room := { frames := 1, cells := 0, slots := 0, locals := 22 }
set_option maxHeartbeats 4000000 in
set_option maxRecDepth 100000 in
theorem kX8_restore (g : Gx) (M : Mm) (σ : Ab) (δ : Dy) (K : CA σ δ M) (δ2 : Dy) (HK : ¬ mI M 0 15 = 0 ∧ mI M 0 16 = mI M 0 14 ∧ mI M 0 17 = mI M 0 13 → CC 18 M σ δ2 ∧ DW σ δ2) : Ct g yX8_restore cX8_restore 1 (Option.some FieldType.int) rmX8_restore [.ref (g.1 + 0)] M (pI fun r M' => (¬ mI M 0 15 = 0 ∧ mI M 0 16 = mI M 0 14 ∧ mI M 0 17 = mI M 0 13 → Fr (cF 11) [] M M' ∧ r = nI (zS σ) ∧ CA σ δ2 M') ∧ (¬ (¬ mI M 0 15 = 0 ∧ mI M 0 16 = mI M 0 14 ∧ mI M 0 17 = mI M 0 13) → M' = M ∧ r = -103)) := by
  obtain ⟨hs, w, dw, V, D, D2, D3, D4, D5, D6⟩ := id K
  refine Ct.of rfl (Nat.le_of_ble_eq_true rfl) (fun x => ?_)
  refine r_aload_n dX8_restore_0 rfl ?_
  refine r_getI flX8_72_8 rfl (hs.lt (by decide)) (hs.T 0 rfl) dX8_restore_1 ?_
  refine r_if_eq 29 dX8_restore_4 (by decide) (fun c4 => ?_) (fun c4 => ?_)
  · skip
    refine r_bipush (v := -103) dX8_restore_29 (by decide) ?_
    exact r_iret dX8_restore_31 ⟨_, rfl, fun q => by grind, fun _ => ⟨rfl, rfl⟩⟩
  · skip
    refine r_aload_n dX8_restore_7 rfl ?_
    refine r_getI flX8_76_8 rfl (hs.lt (by decide)) (hs.T 0 rfl) dX8_restore_8 ?_
    refine r_aload_n dX8_restore_11 rfl ?_
    refine r_getI flX8_69_8 rfl (hs.lt (by decide)) (hs.T 0 rfl) dX8_restore_12 ?_
    refine r_icmp_ne 29 dX8_restore_15 (by decide) (fun c15 => ?_) (fun c15 => ?_)
    · skip
      refine r_bipush (v := -103) dX8_restore_29 (by decide) ?_
      exact r_iret dX8_restore_31 ⟨_, rfl, fun q => by grind, fun _ => ⟨rfl, rfl⟩⟩
    · skip
      refine r_aload_n dX8_restore_18 rfl ?_
      refine r_getI flX8_79_8 rfl (hs.lt (by decide)) (hs.T 0 rfl) dX8_restore_19 ?_
      refine r_aload_n dX8_restore_22 rfl ?_
      refine r_getI flX8_66_8 rfl (hs.lt (by decide)) (hs.T 0 rfl) dX8_restore_23 ?_
      refine r_icmp_eq 32 dX8_restore_26 (by decide) (fun c26 => ?_) (fun c26 => ?_)
      · skip
        have hq : ¬ mI M 0 15 = 0 ∧ mI M 0 16 = mI M 0 14 ∧ mI M 0 17 = mI M 0 13 := ⟨c4, c15, c26⟩
        obtain ⟨CK, dw2⟩ := HK hq
        refine r_aload_n dX8_restore_32 rfl ?_
        refine r_getR flX8_39_8 rfl (hs.lt (by decide)) (hs.T 0 rfl) (hs.R 0 5 rfl) dX8_restore_33 ?_
        refine r_aload_n dX8_restore_36 rfl ?_
        refine r_getR flX8_43_8 rfl (hs.lt (by decide)) (hs.T 0 rfl) (hs.R 0 6 rfl) dX8_restore_37 ?_
        refine r_cV1v cvX8_188 (kX1_takeOver g M 11 18 (Or.inl rfl) (Or.inr (Or.inl rfl)) (by decide) hs CK.2.2.2.2.2) (hs.lt (by decide)) (hs.T 11 rfl) ⟨Nat.le_of_ble_eq_true rfl, Nat.le_of_ble_eq_true rfl⟩ (Nat.le_of_ble_eq_true rfl) ⟨Nat.le_of_ble_eq_true rfl, Nat.le_of_ble_eq_true rfl⟩ dX8_restore_40 (fun M40 h40 => ?_)
        obtain ⟨hF, hcp, h6, h7⟩ := h40
        have CC2 := CC.copy w CK hcp h6 h7
        have V2 := V.fr hs w hF (by intro a ha; rw [cF_in] at ha; omega)
        refine r_aload_n dX8_restore_43 rfl ?_
        refine r_getI flX8_66_8 rfl ((hs.fr hF).lt (by decide)) ((hs.fr hF).T 0 rfl) dX8_restore_44 ?_
        exact r_iret dX8_restore_47 ⟨_, rfl, fun _ => ⟨hF, V2.2.1, hs.fr hF, w, dw2, V2, CC2⟩, fun q => absurd hq q⟩
      · skip
        refine r_bipush (v := -103) dX8_restore_29 (by decide) ?_
        exact r_iret dX8_restore_31 ⟨_, rfl, fun q => by grind, fun _ => ⟨rfl, rfl⟩⟩
def rmX8_month : Room := { frames := 4, cells := 0, slots := 0, locals := 99 }
theorem take8 {k S : Nat} {wo : Rw} {fr to : Int32} (hto : hs8 to) : ∀ (n : Nat) (ps : Rw), (∀ s, s < S → hs8 (ps s)) → ∀ s, s < S → hs8 ((takeF k wo S fr to n ps).2 s)
  | 0, ps, h => h
  | n + 1, ps, h => by
    intro s hs
    rw [takeF]
    split
    · exact h s hs
    · refine take8 hto n _ (fun u hu => ?_) s hs
      rw [va_up_if]
      split
      · exact hto
      · exact h u hu
theorem visit8 {σ : Ab} (w : Wf σ) {pd dg lo ps : Rw} {t : Nat} (ht : t < zN σ) (h : ∀ s, s < zS σ → hs8 (ps s)) : ∀ s, s < zS σ → hs8 ((visitF σ pd dg lo t ps).2 s) := by
  by_cases hq : outF (zk σ t) (dg (frF σ (pd t) t).toNatClampNeg) (lo (frF σ (pd t) t).toNatClampNeg)
  · rw [visitF_1 hq]; exact h
  · rw [visitF_0 hq]; exact take8 (toF_8 w ht _) _ _ h
theorem passn8 {σ : Ab} (w : Wf σ) {pd dg lo ps : Rw} {cm : Nat → Prop} (h : ∀ s, s < zS σ → hs8 (ps s)) : ∀ n, n ≤ zN σ → ∀ s, s < zS σ → hs8 ((passF σ pd dg lo cm ps n).2 s)
  | 0, _ => h
  | n + 1, hn => by
    have ih := passn8 w (pd := pd) (dg := dg) (lo := lo) (cm := cm) h n (by omega)
    by_cases hc : cm n
    · rw [passF_s1 hc]; exact visit8 w (by omega) ih
    · rw [passF_s0 hc]; exact ih
theorem pass8 {σ : Ab} {δ : Dy} (w : Wf σ) (dw : DW σ δ) : ∀ s, s < zS σ → hs8 ((passF σ (yq δ) (yd δ) (yl δ) allT (yp δ) (zN σ)).2 s) := passn8 w dw.2.1 _ (Nat.le_refl _)
set_option maxHeartbeats 4000000 in
set_option maxRecDepth 100000 in
theorem lp_month (g : Gx) (x : Cx) (M : Mm) (σ : Ab) (δ : Dy) (K : CA σ δ M) (hN0 : ¬ zN σ = 0) : ∀ (n : Nat) (i : Nat) (v : Int32) (M1 : Mm), i ≤ zN σ → zN σ - i < n → v = nI i → Fr [11] [] M M1 → mI M1 11 6 = ym δ → mI M1 11 7 = feeF σ δ i → Vj x g yX8_month cX8_month 2 (Option.some FieldType.int) rmX8_month (Qm x g rmX8_month.cells rmX8_month.slots (pI fun r M' => Fr (cF 11) [] M M' ∧ r = monR σ δ ∧ CA σ (monD σ δ) M')) 0 0 M1 12 [(0, some (.ref (g.1 + 0))), (1, some (.int v))] [] := by
  intro n
  induction n with
  | zero => intro i v M1 hiN hn hv hF e6 e7; omega
  | succ n ih =>
    intro i v M1 hiN hn hv hF e6 e7
    obtain ⟨hs, w, dw, V, D, D2, D3, D4, D5, D6⟩ := id K
    have hs1 := hs.fr hF
    have V1 := V.fr hs w hF (by decide)
    have D1 : CD 11 M1 σ (yq δ) (yd δ) (yl δ) (yp δ) := ⟨fun s hs => by rw [hF.2.1 _ (by simp)]; exact D.1 s hs, fun s hs => by rw [hF.2.1 _ (by simp)]; exact D.2.1 s hs, fun s hs => by rw [hF.2.1 _ (by simp)]; exact D.2.2.1 s hs, fun s hs => by rw [hF.2.1 _ (by simp)]; exact D.2.2.2 s hs⟩
    refine r_iload_n dX8_month_12 rfl ?_
    refine r_aload_n dX8_month_13 rfl ?_
    refine r_getI flX8_62_8 rfl (hs1.lt (by decide)) (hs1.T 0 rfl) dX8_month_14 ?_
    refine r_icmp_ge 63 dX8_month_17 (by decide) (fun c17 => ?_) (fun c17 => ?_)
    · skip
      have e0 := lp_ge (n := zN σ) hv V1.1 c17 hiN (by have := w.1; omega)
      subst e0
      refine r_aload_n dX8_month_63 rfl ?_
      refine r_getR flX8_39_8 rfl (hs1.lt (by decide)) (hs1.T 0 rfl) (hs1.R 0 5 rfl) dX8_month_64 ?_
      refine r_dup dX8_month_67 rfl ?_
      refine r_getI flX8_182_1 rfl (hs1.lt (by decide)) (hs1.T 11 rfl) dX8_month_68 ?_
      refine r_iconst (v := 1) dX8_month_71 (by decide) ?_
      refine r_iadd dX8_month_72 ?_
      refine r_putI fpX8_182_1 rfl (hs1.lt (by decide)) (hs1.T 11 rfl) rfl rfl dX8_month_73 ?_
      refine r_aload_n dX8_month_76 rfl ?_
      refine r_aload_n dX8_month_77 rfl ?_
      refine r_getR flX8_39_8 rfl (hs1.lt (by decide)) (hs1.T 0 rfl) (hs1.R 0 5 rfl) dX8_month_78 ?_
      refine r_iconst (v := -1) dX8_month_81 (by decide) ?_
      refine r_cV2i cvX8_185 (kX8_monthWithout g (sI M1 11 6 (mI M1 11 6 + 1)) 11 (Or.inl rfl) hs1 σ w (V1.st hs1 w (by decide)) (yq δ) (yd δ) (yl δ) (yp δ) D1 dw.1 (-1)) (hs1.lt (by decide)) (hs1.T 0 rfl) ⟨Nat.le_of_ble_eq_true rfl, Nat.le_of_ble_eq_true rfl⟩ (Nat.le_of_ble_eq_true rfl) ⟨Nat.le_of_ble_eq_true rfl, Nat.le_of_ble_eq_true rfl⟩ dX8_month_82 (fun r82 M82 h82 => ?_)
      obtain ⟨hF2, e2, e3⟩ := h82
      rw [pass_all w] at e2 e3
      exact r_iret dX8_month_85 ⟨_, rfl, (hF.sI (by simp)).mono (by intro a ha; simp at ha; rw [cF_in]; omega) (by simp) |>.tr (hF2.mono (by intro a ha; simp at ha; rw [cF_in]; omega) (by simp)), by rw [monR, if_neg hN0]; exact e2, by
            rw [monD, if_neg hN0]
            have n6 : ∀ k, k ≠ 1 → k ≠ 3 → mI M82 (11 + k) = mI (sI M1 11 6 (mI M1 11 6 + 1)) (11 + k) := fun k h1 h2 => hF2.2.1 _ (by simp; omega)
            have n7 : ∀ k, k ≠ 0 → mI (sI M1 11 6 (mI M1 11 6 + 1)) (11 + k) = mI M (11 + k) := fun k h1 => by rw [mI_sI_ne (by omega), hF.2.1 _ (by simp; omega)]
            refine ⟨(show St (sI M1 11 6 (mI M1 11 6 + 1)) from hs1).fr hF2, w, ⟨lapF_0 dw.1, ?_, dw.2.2.1, dw.2.2.2⟩, (V1.st hs1 w (by decide)).fr hs1 w hF2 (by decide), e3, fun s hs => ?_, fun t ht => ?_, ?_, ?_, fun j hj => ?_⟩
            · exact pass8 w dw
            · rw [n6 2 (by decide) (by decide), n7 2 (by decide)]; exact D2 s hs
            · rw [n6 6 (by decide) (by decide), n7 6 (by decide)]; exact D3 t ht
            · rw [show mI M82 11 = _ from n6 0 (by decide) (by decide), mI_sI, va_up_self, e6]; rfl
            · rw [show mI M82 11 = _ from n6 0 (by decide) (by decide), mI_sI, va_up_ne _ _ (by decide)]; exact e7
            · rw [n6 4 (by decide) (by decide), n7 4 (by decide), n6 5 (by decide) (by decide), n7 5 (by decide)]; exact D6 j hj⟩
    · skip
      have hi : i < zN σ := lp_lt (n := zN σ) hv V1.1 c17 hiN (by have := w.1; omega)
      have h8 : i < 8 := Nat.lt_of_lt_of_le hi w.1
      obtain ⟨a, eR, ha, ht, ek, ep, er, ef, -, -⟩ := hs1.th w V1 hi
      refine r_aload_n dX8_month_20 rfl ?_
      refine r_getR flX8_39_8 rfl (hs1.lt (by decide)) (hs1.T 0 rfl) (hs1.R 0 5 rfl) dX8_month_21 ?_
      refine r_dup dX8_month_24 rfl ?_
      refine r_getI flX8_179_1 rfl (hs1.lt (by decide)) (hs1.T 11 rfl) dX8_month_25 ?_
      refine r_dia (P := fun u => u = (if yq δ i = 0 then 0 else zf σ i)) 53 (fun u hu => ?_) (fun hJ53 => ?_)
      · skip
        refine r_iadd dX8_month_53 ?_
        refine r_putI fpX8_179_1 rfl (hs1.lt (by decide)) (hs1.T 11 rfl) rfl rfl dX8_month_54 ?_
        refine r_iinc dX8_month_57 rfl rfl rfl ?_
        refine r_goto 12 dX8_month_60 (by decide) ?_
        exact r_lv (lvSc rfl (lvSc rfl lvS0)) (ih (i + 1) _ _ (by omega) (by omega) (nI_inc hv) (hF.sI (by simp)) (by rw [mI_sI, va_up_ne _ _ (by decide)]; exact e6) (by rw [mI_sI, va_up_self, hu, e7, feeF]))
      · skip
        refine r_aload_n dX8_month_28 rfl ?_
        refine r_getR flX8_39_8 rfl (hs1.lt (by decide)) (hs1.T 0 rfl) (hs1.R 0 5 rfl) dX8_month_29 ?_
        refine r_getR flX8_126_1 rfl (hs1.lt (by decide)) (hs1.T 11 rfl) (hs1.R 11 4 rfl) dX8_month_32 ?_
        refine r_iload_n dX8_month_35 rfl ?_
        refine r_zal (hs1.T 16 rfl) (hs1.lt (by decide)) (ix_of hv h8 (by decide)) dX8_month_36 ?_
        refine r_if_eq 52 dX8_month_37 (by decide) (fun c37 => ?_) (fun c37 => ?_)
        · skip
          refine r_iconst (v := 0) dX8_month_52 (by decide) ?_
          exact hJ53 _ (by rw [show mI M1 16 i = yq δ i from (D1.2.2.2 i hi).1] at c37; simp [c37, ef])
        · skip
          refine r_aload_n dX8_month_40 rfl ?_
          refine r_getR flX8_25_8 rfl (hs1.lt (by decide)) (hs1.T 0 rfl) (hs1.R 0 2 rfl) dX8_month_41 ?_
          refine r_iload_n dX8_month_44 rfl ?_
          refine r_aal (hs1.T 8 rfl) (hs1.lt (by decide)) (ix_of hv h8 (by decide)) eR dX8_month_45 ?_
          refine r_getTh flX8_146_7 flX8_146_6 flX8_146_0 flX8_146_2 flX8_146_3 (by decide) ha ht dX8_month_46 ?_
          refine r_goto 53 dX8_month_49 (by decide) ?_
          exact hJ53 _ (by rw [show mI M1 16 i = yq δ i from (D1.2.2.2 i hi).1] at c37; simp [c37, ef])
set_option maxHeartbeats 4000000 in
set_option maxRecDepth 100000 in
theorem kX8_month (g : Gx) (M : Mm) (σ : Ab) (δ : Dy) (K : CA σ δ M) : Ct g yX8_month cX8_month 2 (Option.some FieldType.int) rmX8_month [.ref (g.1 + 0)] M (pI fun r M' => Fr (cF 11) [] M M' ∧ r = monR σ δ ∧ CA σ (monD σ δ) M') := by
  obtain ⟨hs, w, dw, V, D, D2, D3, D4, D5, D6⟩ := id K
  refine Ct.of rfl (Nat.le_of_ble_eq_true rfl) (fun x => ?_)
  refine r_aload_n dX8_month_0 rfl ?_
  refine r_getI flX8_62_8 rfl (hs.lt (by decide)) (hs.T 0 rfl) dX8_month_1 ?_
  refine r_if_ne 10 dX8_month_4 (by decide) (fun c4 => ?_) (fun c4 => ?_)
  · skip
    rw [V.1, nI_zero w.1] at c4
    refine r_iconst (v := 0) dX8_month_10 (by decide) ?_
    refine r_istore_n dX8_month_11 (by decide) rfl ?_
    exact r_lv (lvSc rfl (lvSc rfl lvS0)) (lp_month g x M σ δ K c4 (zN σ + 1) 0 0 M (by omega) (by omega) rfl (Fr.rf _ _ _) D4 D5)
  · skip
    rw [V.1, nI_zero w.1] at c4
    refine r_bipush (v := -103) dX8_month_7 (by decide) ?_
    exact r_iret dX8_month_9 ⟨_, rfl, Fr.rf _ _ _, by rw [monR, if_pos c4], by rw [monD, if_pos c4]; exact K⟩
