def rmX8_wouldBeAsSeen : Room := { frames := 4, cells := 0, slots := 0, locals := 99 }
set_option maxHeartbeats 4000000 in
set_option maxRecDepth 100000 in
theorem lp_would (g : Gx) (x : Cx) (M : Mm) (σ : Ab) (δ : Dy) (K : CA σ δ M) (ab : Int32) (M1 : Mm) (hF : Fr (cF 25) [] M M1) (V1 : CV1 σ M1) (he : ∀ s, s < zS σ → mI M1 27 s = ye δ s) (hp : ∀ s, s < zS σ → mI M1 26 s = (passF σ (yq δ) (yd δ) (yl δ) (fun t => ¬ nI t = ab) (yp δ) (zN σ)).2 s) : ∀ (n : Nat) (i : Nat) (v : Int32), i ≤ zS σ → zS σ - i < n → v = nI i → (∀ s, s < i → ye δ s = -1 ∨ ye δ s = (passF σ (yq δ) (yd δ) (yl δ) (fun t => ¬ nI t = ab) (yp δ) (zN σ)).2 s) → Vj x g yX8_wouldBeAsSeen cX8_wouldBeAsSeen 3 (Option.some FieldType.boolean) rmX8_wouldBeAsSeen (Qm x g rmX8_wouldBeAsSeen.cells rmX8_wouldBeAsSeen.slots (pI fun r M' => Fr (cF 25) [] M M' ∧ ((r = 1 ∧ AS σ δ (fun t => ¬ nI t = ab)) ∨ (r = 0 ∧ ¬ AS σ δ (fun t => ¬ nI t = ab))))) 0 0 M1 23 [(0, some (.ref (g.1 + 0))), (1, some (.int ab)), (2, some (.int v))] [] := by
  intro n
  induction n with
  | zero => intro i v hiS hn hv hA; omega
  | succ n ih =>
    intro i v hiS hn hv hA
    obtain ⟨hs, w, dw, V, D, D2, D3, D4, D5, D6⟩ := id K
    have hs1 := hs.fr hF
    refine r_iload_n dX8_wouldBeAsSeen_23 rfl ?_
    refine r_aload_n dX8_wouldBeAsSeen_24 rfl ?_
    refine r_getI flX8_66_8 rfl (hs1.lt (by decide)) (hs1.T 0 rfl) dX8_wouldBeAsSeen_25 ?_
    refine r_icmp_ge 73 dX8_wouldBeAsSeen_28 (by decide) (fun c28 => ?_) (fun c28 => ?_)
    · skip
      have e0 := lp_ge (n := zS σ) hv V1.2.1 c28 hiS (by have := w.2.1; omega)
      subst e0
      refine r_iconst (v := 1) dX8_wouldBeAsSeen_73 (by decide) ?_
      exact r_zret (nar_bool (by simp)) dX8_wouldBeAsSeen_74 ⟨_, rfl, hF, Or.inl ⟨rfl, hA⟩⟩
    · skip
      have hi : i < zS σ := lp_lt (n := zS σ) hv V1.2.1 c28 hiS (by have := w.2.1; omega)
      have h8 : i < 8 := Nat.lt_of_lt_of_le hi w.2.1
      refine r_aload_n dX8_wouldBeAsSeen_31 rfl ?_
      refine r_getR flX8_46_8 rfl (hs1.lt (by decide)) (hs1.T 0 rfl) (hs1.R 0 7 rfl) dX8_wouldBeAsSeen_32 ?_
      refine r_getR flX8_169_1 rfl (hs1.lt (by decide)) (hs1.T 25 rfl) (hs1.R 25 1 rfl) dX8_wouldBeAsSeen_35 ?_
      refine r_iload_n dX8_wouldBeAsSeen_38 rfl ?_
      refine r_ial (hs1.T 27 rfl) (hs1.lt (by decide)) (ix_of hv h8 (by decide)) dX8_wouldBeAsSeen_39 ?_
      refine r_iconst (v := -1) dX8_wouldBeAsSeen_40 (by decide) ?_
      refine r_icmp_eq 67 dX8_wouldBeAsSeen_41 (by decide) (fun c41 => ?_) (fun c41 => ?_)
      · skip
        refine r_iinc dX8_wouldBeAsSeen_67 rfl rfl rfl ?_
        refine r_goto 23 dX8_wouldBeAsSeen_70 (by decide) ?_
        first
          | exact r_lv (lvSc rfl (lvSc rfl (lvSc rfl lvS0))) (ih (i + 1) _ (by omega) (by omega) (nI_inc hv) (fun s hs => by rcases Nat.lt_or_ge s i with q | q; exact hA s q; rw [show s = i by omega]; exact Or.inl ((he i hi).symm.trans c41)))
          | exact r_lv (lvSc rfl (lvSc rfl (lvSc rfl lvS0))) (ih (i + 1) _ (by omega) (by omega) (nI_inc hv) (fun s hs => by rcases Nat.lt_or_ge s i with q | q; exact hA s q; rw [show s = i by omega]; exact Or.inr ((he i hi).symm.trans (c62.trans (hp i hi)))))
      · skip
        refine r_aload_n dX8_wouldBeAsSeen_44 rfl ?_
        refine r_getR flX8_46_8 rfl (hs1.lt (by decide)) (hs1.T 0 rfl) (hs1.R 0 7 rfl) dX8_wouldBeAsSeen_45 ?_
        refine r_getR flX8_169_1 rfl (hs1.lt (by decide)) (hs1.T 25 rfl) (hs1.R 25 1 rfl) dX8_wouldBeAsSeen_48 ?_
        refine r_iload_n dX8_wouldBeAsSeen_51 rfl ?_
        refine r_ial (hs1.T 27 rfl) (hs1.lt (by decide)) (ix_of hv h8 (by decide)) dX8_wouldBeAsSeen_52 ?_
        refine r_aload_n dX8_wouldBeAsSeen_53 rfl ?_
        refine r_getR flX8_46_8 rfl (hs1.lt (by decide)) (hs1.T 0 rfl) (hs1.R 0 7 rfl) dX8_wouldBeAsSeen_54 ?_
        refine r_getR flX8_166_1 rfl (hs1.lt (by decide)) (hs1.T 25 rfl) (hs1.R 25 0 rfl) dX8_wouldBeAsSeen_57 ?_
        refine r_iload_n dX8_wouldBeAsSeen_60 rfl ?_
        refine r_ial (hs1.T 26 rfl) (hs1.lt (by decide)) (ix_of hv h8 (by decide)) dX8_wouldBeAsSeen_61 ?_
        refine r_icmp_eq 67 dX8_wouldBeAsSeen_62 (by decide) (fun c62 => ?_) (fun c62 => ?_)
        · skip
          refine r_iinc dX8_wouldBeAsSeen_67 rfl rfl rfl ?_
          refine r_goto 23 dX8_wouldBeAsSeen_70 (by decide) ?_
          first
            | exact r_lv (lvSc rfl (lvSc rfl (lvSc rfl lvS0))) (ih (i + 1) _ (by omega) (by omega) (nI_inc hv) (fun s hs => by rcases Nat.lt_or_ge s i with q | q; exact hA s q; rw [show s = i by omega]; exact Or.inl ((he i hi).symm.trans c41)))
            | exact r_lv (lvSc rfl (lvSc rfl (lvSc rfl lvS0))) (ih (i + 1) _ (by omega) (by omega) (nI_inc hv) (fun s hs => by rcases Nat.lt_or_ge s i with q | q; exact hA s q; rw [show s = i by omega]; exact Or.inr ((he i hi).symm.trans (c62.trans (hp i hi)))))
        · skip
          refine r_iconst (v := 0) dX8_wouldBeAsSeen_65 (by decide) ?_
          exact r_zret (nar_bool (by simp)) dX8_wouldBeAsSeen_66 ⟨_, rfl, hF, Or.inr ⟨rfl, fun q => (q i hi).elim (fun z => c41 ((he i hi).trans z)) (fun z => c62 ((he i hi).trans (z.trans (hp i hi).symm)))⟩⟩
set_option maxHeartbeats 4000000 in
set_option maxRecDepth 100000 in
theorem kX8_wouldBeAsSeen (g : Gx) (M : Mm) (σ : Ab) (δ : Dy) (K : CA σ δ M) (ab : Int32) : Ct g yX8_wouldBeAsSeen cX8_wouldBeAsSeen 3 (Option.some FieldType.boolean) rmX8_wouldBeAsSeen [.ref (g.1 + 0), .int ab] M (pI fun r M' => Fr (cF 25) [] M M' ∧ ((r = 1 ∧ AS σ δ (fun t => ¬ nI t = ab)) ∨ (r = 0 ∧ ¬ AS σ δ (fun t => ¬ nI t = ab)))) := by
  obtain ⟨hs, w, dw, V, D, D2, D3, D4, D5, D6⟩ := id K
  refine Ct.of rfl (Nat.le_of_ble_eq_true rfl) (fun x => ?_)
  refine r_aload_n dX8_wouldBeAsSeen_0 rfl ?_
  refine r_getR flX8_46_8 rfl (hs.lt (by decide)) (hs.T 0 rfl) (hs.R 0 7 rfl) dX8_wouldBeAsSeen_1 ?_
  refine r_aload_n dX8_wouldBeAsSeen_4 rfl ?_
  refine r_getR flX8_39_8 rfl (hs.lt (by decide)) (hs.T 0 rfl) (hs.R 0 5 rfl) dX8_wouldBeAsSeen_5 ?_
  refine r_cV1v cvX8_188 (kX1_takeOver g M 25 11 (Or.inr (Or.inr rfl)) (Or.inl rfl) (by decide) hs D6) (hs.lt (by decide)) (hs.T 25 rfl) ⟨Nat.le_of_ble_eq_true rfl, Nat.le_of_ble_eq_true rfl⟩ (Nat.le_of_ble_eq_true rfl) ⟨Nat.le_of_ble_eq_true rfl, Nat.le_of_ble_eq_true rfl⟩ dX8_wouldBeAsSeen_8 (fun M8 h8 => ?_)
  obtain ⟨hF, hcp, h6, h7⟩ := h8
  have CC2 := CC.copy w K.2.2.2.2 hcp h6 h7
  have V2 := V.fr hs w hF (by intro a ha; rw [cF_in] at ha; omega)
  refine r_aload_n dX8_wouldBeAsSeen_11 rfl ?_
  refine r_aload_n dX8_wouldBeAsSeen_12 rfl ?_
  refine r_getR flX8_46_8 rfl ((hs.fr hF).lt (by decide)) ((hs.fr hF).T 0 rfl) ((hs.fr hF).R 0 7 rfl) dX8_wouldBeAsSeen_13 ?_
  refine r_iload_n dX8_wouldBeAsSeen_16 rfl ?_
  refine r_cV2i cvX8_185 (kX8_monthWithout g M8 25 (Or.inr (Or.inr rfl)) (hs.fr hF) σ w V2 (yq δ) (yd δ) (yl δ) (yp δ) CC2.1 dw.1 ab) ((hs.fr hF).lt (by decide)) ((hs.fr hF).T 0 rfl) ⟨Nat.le_of_ble_eq_true rfl, Nat.le_of_ble_eq_true rfl⟩ (Nat.le_of_ble_eq_true rfl) ⟨Nat.le_of_ble_eq_true rfl, Nat.le_of_ble_eq_true rfl⟩ dX8_wouldBeAsSeen_17 (fun r17 M17 h17 => ?_)
  obtain ⟨hF2, e2, e3⟩ := h17
  have hF3 := hF.tr (hF2.mono (is' := cF 25) (ls' := []) (by intro a ha; simp at ha; rw [cF_in]; omega) (by simp))
  refine r_pop dX8_wouldBeAsSeen_20 rfl ?_
  refine r_iconst (v := 0) dX8_wouldBeAsSeen_21 (by decide) ?_
  refine r_istore_n dX8_wouldBeAsSeen_22 (by decide) rfl ?_
  exact r_lv (lvSc rfl (lvSc rfl (lvSc rfl lvS0))) (lp_would g x M σ δ K ab M17 hF3 (V2.fr (hs.fr hF) w hF2 (by decide)) (fun s hs => by rw [hF2.2.1 27 (by decide)]; exact CC2.2.1 s hs) e3.1 (zS σ + 1) 0 0 (by omega) (by omega) rfl (fun s hs => by omega))
def rmX8_who : Room := { frames := 5, cells := 0, slots := 0, locals := 121 }
theorem whoB_0 {σ : Ab} {δ : Dy} (w : Wf σ) {r : Int32} (h : (r = 1 ∧ AS σ δ (fun t => ¬ nI t = -1)) ∨ (r = 0 ∧ ¬ AS σ δ (fun t => ¬ nI t = -1))) : whoB σ δ 0 = if r = 0 then 0 else 256 := by
  have e : AS σ δ (fun t => ¬ nI t = -1) ↔ AS σ δ allT := AS_congr (fun t ht => ⟨fun _ => trivial, fun _ => nI_ne_m1 (by have := w.1; omega)⟩)
  rw [e] at h
  rw [whoB]
  rcases h with ⟨q, h⟩ | ⟨q, h⟩ <;> subst q <;> simp [h]
theorem whoB_s {σ : Ab} {δ : Dy} (w : Wf σ) {r : Int32} {i : Nat} (hi : i < zN σ) (h : (r = 1 ∧ AS σ δ (fun t => ¬ nI t = nI i)) ∨ (r = 0 ∧ ¬ AS σ δ (fun t => ¬ nI t = nI i))) : whoB σ δ (i + 1) = whoB σ δ i ||| (if r = 0 then 0 else (1 : Int32) <<< (nI i &&& 31)) := by
  have e : AS σ δ (fun t => ¬ nI t = nI i) ↔ AS σ δ (fun u => u ≠ i) := AS_congr (fun t ht => by have := w.1; rw [nI_eq (by omega) (by omega)])
  rw [e] at h
  rw [whoB]
  rcases h with ⟨q, h⟩ | ⟨q, h⟩ <;> subst q <;> simp [h]
set_option maxHeartbeats 4000000 in
set_option maxRecDepth 100000 in
theorem lp_who (g : Gx) (x : Cx) (M : Mm) (σ : Ab) (δ : Dy) (K : CA σ δ M) (hN0 : ¬ zN σ = 0) : ∀ (n : Nat) (i : Nat) (v b : Int32) (M1 : Mm), i ≤ zN σ → zN σ - i < n → v = nI i → Fr (cF 25) [] M M1 → b = whoB σ δ i → Vj x g yX8_who cX8_who 3 (Option.some FieldType.int) rmX8_who (Qm x g rmX8_who.cells rmX8_who.slots (pI fun r M' => Fr (cF 25) [] M M' ∧ r = whoR σ δ)) 0 0 M1 28 [(0, some (.ref (g.1 + 0))), (1, some (.int b)), (2, some (.int v))] [] := by
  intro n
  induction n with
  | zero => intro i v b M1 hiN hn hv hF hb; omega
  | succ n ih =>
    intro i v b M1 hiN hn hv hF hb
    obtain ⟨hs, w, dw, V, D, D2, D3, D4, D5, D6⟩ := id K
    have hs1 := hs.fr hF
    have K1 := K.fr hF (by intro a ha; rw [cF_in] at ha; unfold okK; omega)
    have V1 := K1.2.2.2.1
    refine r_iload_n dX8_who_28 rfl ?_
    refine r_aload_n dX8_who_29 rfl ?_
    refine r_getI flX8_62_8 rfl (hs1.lt (by decide)) (hs1.T 0 rfl) dX8_who_30 ?_
    refine r_icmp_ge 60 dX8_who_33 (by decide) (fun c33 => ?_) (fun c33 => ?_)
    · skip
      have e0 := lp_ge (n := zN σ) hv V1.1 c33 hiN (by have := w.1; omega)
      subst e0
      refine r_iload_n dX8_who_60 rfl ?_
      exact r_iret dX8_who_61 ⟨_, rfl, hF, by rw [whoR, if_neg hN0]; exact hb⟩
    · skip
      have hi : i < zN σ := lp_lt (n := zN σ) hv V1.1 c33 hiN (by have := w.1; omega)
      refine r_iload_n dX8_who_36 rfl ?_
      refine r_aload_n dX8_who_37 rfl ?_
      refine r_iload_n dX8_who_38 rfl ?_
      refine r_cV1i cvX8_217 (kX8_wouldBeAsSeen g M1 σ δ K1 v) (hs1.lt (by decide)) (hs1.T 0 rfl) ⟨Nat.le_of_ble_eq_true rfl, Nat.le_of_ble_eq_true rfl⟩ (Nat.le_of_ble_eq_true rfl) ⟨Nat.le_of_ble_eq_true rfl, Nat.le_of_ble_eq_true rfl⟩ dX8_who_39 (fun r39 M39 h39 => ?_)
      obtain ⟨hF2, h39⟩ := h39
      rw [hv] at h39
      refine r_if_eq 51 dX8_who_42 (by decide) (fun c42 => ?_) (fun c42 => ?_)
      · skip
        refine r_iconst (v := 0) dX8_who_51 (by decide) ?_
        refine r_ior dX8_who_52 ?_
        refine r_istore_n dX8_who_53 (by decide) rfl ?_
        refine r_iinc dX8_who_54 rfl rfl rfl ?_
        refine r_goto 28 dX8_who_57 (by decide) ?_
        first
          | exact r_lv (lvSc rfl (lvSc rfl (lvSc rfl lvS0))) (ih (i + 1) _ _ _ (by omega) (by omega) (nI_inc hv) (hF.tr hF2) (by rw [whoB_s w hi h39, if_pos c42, hb]))
          | exact r_lv (lvSc rfl (lvSc rfl (lvSc rfl lvS0))) (ih (i + 1) _ _ _ (by omega) (by omega) (nI_inc hv) (hF.tr hF2) (by rw [whoB_s w hi h39, if_neg c42, hb, hv]))
      · skip
        refine r_iconst (v := 1) dX8_who_45 (by decide) ?_
        refine r_iload_n dX8_who_46 rfl ?_
        refine r_ishl dX8_who_47 ?_
        refine r_goto 52 dX8_who_48 (by decide) ?_
        refine r_ior dX8_who_52 ?_
        refine r_istore_n dX8_who_53 (by decide) rfl ?_
        refine r_iinc dX8_who_54 rfl rfl rfl ?_
        refine r_goto 28 dX8_who_57 (by decide) ?_
        first
          | exact r_lv (lvSc rfl (lvSc rfl (lvSc rfl lvS0))) (ih (i + 1) _ _ _ (by omega) (by omega) (nI_inc hv) (hF.tr hF2) (by rw [whoB_s w hi h39, if_pos c42, hb]))
          | exact r_lv (lvSc rfl (lvSc rfl (lvSc rfl lvS0))) (ih (i + 1) _ _ _ (by omega) (by omega) (nI_inc hv) (hF.tr hF2) (by rw [whoB_s w hi h39, if_neg c42, hb, hv]))
set_option maxHeartbeats 4000000 in
set_option maxRecDepth 100000 in
theorem kX8_who (g : Gx) (M : Mm) (σ : Ab) (δ : Dy) (K : CA σ δ M) : Ct g yX8_who cX8_who 3 (Option.some FieldType.int) rmX8_who [.ref (g.1 + 0)] M (pI fun r M' => Fr (cF 25) [] M M' ∧ r = whoR σ δ) := by
  obtain ⟨hs, w, dw, V, D, D2, D3, D4, D5, D6⟩ := id K
  refine Ct.of rfl (Nat.le_of_ble_eq_true rfl) (fun x => ?_)
  refine r_aload_n dX8_who_0 rfl ?_
  refine r_getI flX8_62_8 rfl (hs.lt (by decide)) (hs.T 0 rfl) dX8_who_1 ?_
  refine r_if_ne 10 dX8_who_4 (by decide) (fun c4 => ?_) (fun c4 => ?_)
  · skip
    rw [V.1, nI_zero w.1] at c4
    refine r_aload_n dX8_who_10 rfl ?_
    refine r_iconst (v := -1) dX8_who_11 (by decide) ?_
    refine r_cV1i cvX8_217 (kX8_wouldBeAsSeen g M σ δ K (-1)) (hs.lt (by decide)) (hs.T 0 rfl) ⟨Nat.le_of_ble_eq_true rfl, Nat.le_of_ble_eq_true rfl⟩ (Nat.le_of_ble_eq_true rfl) ⟨Nat.le_of_ble_eq_true rfl, Nat.le_of_ble_eq_true rfl⟩ dX8_who_12 (fun r12 M12 h12 => ?_)
    obtain ⟨hF2, h12⟩ := h12
    have e0 := whoB_0 w h12
    refine r_if_eq 24 dX8_who_15 (by decide) (fun c15 => ?_) (fun c15 => ?_)
    · skip
      refine r_iconst (v := 0) dX8_who_24 (by decide) ?_
      refine r_istore_n dX8_who_25 (by decide) rfl ?_
      refine r_iconst (v := 0) dX8_who_26 (by decide) ?_
      refine r_istore_n dX8_who_27 (by decide) rfl ?_
      first
        | exact r_lv (lvSc rfl (lvSc rfl (lvSc rfl lvS0))) (lp_who g x M σ δ K c4 (zN σ + 1) 0 0 _ _ (by omega) (by omega) rfl hF2 (by rw [e0, if_pos c15]))
        | exact r_lv (lvSc rfl (lvSc rfl (lvSc rfl lvS0))) (lp_who g x M σ δ K c4 (zN σ + 1) 0 0 _ _ (by omega) (by omega) rfl hF2 (by rw [e0, if_neg c15]))
    · skip
      refine r_sipush (v := 256) dX8_who_18 (by decide) ?_
      refine r_goto 25 dX8_who_21 (by decide) ?_
      refine r_istore_n dX8_who_25 (by decide) rfl ?_
      refine r_iconst (v := 0) dX8_who_26 (by decide) ?_
      refine r_istore_n dX8_who_27 (by decide) rfl ?_
      first
        | exact r_lv (lvSc rfl (lvSc rfl (lvSc rfl lvS0))) (lp_who g x M σ δ K c4 (zN σ + 1) 0 0 _ _ (by omega) (by omega) rfl hF2 (by rw [e0, if_pos c15]))
        | exact r_lv (lvSc rfl (lvSc rfl (lvSc rfl lvS0))) (lp_who g x M σ δ K c4 (zN σ + 1) 0 0 _ _ (by omega) (by omega) rfl hF2 (by rw [e0, if_neg c15]))
  · skip
    rw [V.1, nI_zero w.1] at c4
    refine r_bipush (v := -103) dX8_who_7 (by decide) ?_
    exact r_iret dX8_who_9 ⟨_, rfl, Fr.rf _ _ _, by rw [whoR, if_pos c4]⟩
def rmX8_couldBePaidBy : Room := { frames := 0, cells := 0, slots := 0, locals := 0 }
set_option maxHeartbeats 4000000 in
set_option maxRecDepth 100000 in
theorem lp_could (g : Gx) (x : Cx) (M : Mm) (hs : St M) (σ : Ab) (w : Wf σ) (V : CV1 σ M) (h : Int32) : ∀ (n : Nat) (i : Nat) (v b : Int32), i ≤ zN σ → zN σ - i < n → v = nI i → b = orF σ h i → Vj x g yX8_couldBePaidBy cX8_couldBePaidBy 4 (Option.some FieldType.int) rmX8_couldBePaidBy (Qm x g rmX8_couldBePaidBy.cells rmX8_couldBePaidBy.slots (pI fun r M' => M' = M ∧ r = orF σ h (zN σ))) 0 0 M 4 [(0, some (.ref (g.1 + 0))), (1, some (.int h)), (2, some (.int b)), (3, some (.int v))] [] := by
  intro n
  induction n with
  | zero => intro i v b hiN hn hv hb; omega
  | succ n ih =>
    intro i v b hiN hn hv hb
    refine r_iload_n dX8_couldBePaidBy_4 rfl ?_
    refine r_aload_n dX8_couldBePaidBy_5 rfl ?_
    refine r_getI flX8_62_8 rfl (hs.lt (by decide)) (hs.T 0 rfl) dX8_couldBePaidBy_6 ?_
    refine r_icmp_ge 41 dX8_couldBePaidBy_9 (by decide) (fun c9 => ?_) (fun c9 => ?_)
    · skip
      have e0 := lp_ge (n := zN σ) hv V.1 c9 hiN (by have := w.1; omega)
      subst e0
      refine r_iload_n dX8_couldBePaidBy_41 rfl ?_
      exact r_iret dX8_couldBePaidBy_42 ⟨_, rfl, rfl, hb⟩
    · skip
      have hi : i < zN σ := lp_lt (n := zN σ) hv V.1 c9 hiN (by have := w.1; omega)
      have h8 : i < 8 := Nat.lt_of_lt_of_le hi w.1
      obtain ⟨a, eR, ha, ht, ek, ep, er, ef, -, -⟩ := hs.th w V hi
      refine r_iload_n dX8_couldBePaidBy_12 rfl ?_
      refine r_dia (P := fun u => u = (if zp σ i = h then (1 : Int32) <<< (nI i &&& 31) else 0)) 33 (fun u hu => ?_) (fun hJ33 => ?_)
      · skip
        refine r_ior dX8_couldBePaidBy_33 ?_
        refine r_istore_n dX8_couldBePaidBy_34 (by decide) rfl ?_
        refine r_iinc dX8_couldBePaidBy_35 rfl rfl rfl ?_
        refine r_goto 4 dX8_couldBePaidBy_38 (by decide) ?_
        exact r_lv (lvSc rfl (lvSc rfl (lvSc rfl (lvSc rfl lvS0)))) (ih (i + 1) _ _ (by omega) (by omega) (nI_inc hv) (by rw [orF, hb, hu]))
      · skip
        refine r_aload_n dX8_couldBePaidBy_13 rfl ?_
        refine r_getR flX8_25_8 rfl (hs.lt (by decide)) (hs.T 0 rfl) (hs.R 0 2 rfl) dX8_couldBePaidBy_14 ?_
        refine r_iload_n dX8_couldBePaidBy_17 rfl ?_
        refine r_aal (hs.T 8 rfl) (hs.lt (by decide)) (ix_of hv h8 (by decide)) eR dX8_couldBePaidBy_18 ?_
        refine r_getTh flX8_141_7 flX8_141_6 flX8_141_0 flX8_141_2 flX8_141_3 (by decide) ha ht dX8_couldBePaidBy_19 ?_
        refine r_iload_n dX8_couldBePaidBy_22 rfl ?_
        refine r_icmp_ne 32 dX8_couldBePaidBy_23 (by decide) (fun c23 => ?_) (fun c23 => ?_)
        · skip
          refine r_iconst (v := 0) dX8_couldBePaidBy_32 (by decide) ?_
          exact hJ33 _ (by rw [ep] at c23; simp [c23, hv])
        · skip
          refine r_iconst (v := 1) dX8_couldBePaidBy_26 (by decide) ?_
          refine r_iload_n dX8_couldBePaidBy_27 rfl ?_
          refine r_ishl dX8_couldBePaidBy_28 ?_
          refine r_goto 33 dX8_couldBePaidBy_29 (by decide) ?_
          exact hJ33 _ (by rw [ep] at c23; simp [c23, hv])
set_option maxHeartbeats 4000000 in
set_option maxRecDepth 100000 in
theorem kX8_couldBePaidBy (g : Gx) (M : Mm) (hs : St M) (σ : Ab) (w : Wf σ) (V : CV1 σ M) (h : Int32) : Ct g yX8_couldBePaidBy cX8_couldBePaidBy 4 (Option.some FieldType.int) rmX8_couldBePaidBy [.ref (g.1 + 0), .int h] M (pI fun r M' => M' = M ∧ r = orF σ h (zN σ)) := by
  refine Ct.of rfl (Nat.le_of_ble_eq_true rfl) (fun x => ?_)
  refine r_iconst (v := 0) dX8_couldBePaidBy_0 (by decide) ?_
  refine r_istore_n dX8_couldBePaidBy_1 (by decide) rfl ?_
  refine r_iconst (v := 0) dX8_couldBePaidBy_2 (by decide) ?_
  refine r_istore_n dX8_couldBePaidBy_3 (by decide) rfl ?_
  exact r_lv (lvSc rfl (lvSc rfl (lvSc rfl (lvSc rfl lvS0)))) (lp_could g x M hs σ w V h (zN σ + 1) 0 0 0 (by omega) (by omega) rfl rfl)
def rmX8_leftBy : Room := { frames := 4, cells := 0, slots := 0, locals := 99 }
set_option maxHeartbeats 4000000 in
set_option maxRecDepth 100000 in
theorem lp_left2 (g : Gx) (x : Cx) (M : Mm) (σ : Ab) (δ : Dy) (K : CA σ δ M) (h m z : Int32) (mm : Nat) (em : m = nI mm) (hmm : mm ≤ 12) : ∀ (n : Nat) (i : Nat) (v : Int32) (M1 : Mm) (lo1 ps1 : Rw), i ≤ mm → mm - i < n → v = nI i → Fr (cF 25) [] M M1 → CD 25 M1 σ (pdS σ h z (yq δ)) (yd δ) lo1 ps1 → (∀ h, h < 8 → 0 ≤ lo1 h) → (itF σ (pdS σ h z (yq δ)) (yd δ) (mm - i) ps1 lo1).1 = (itF σ (pdS σ h z (yq δ)) (yd δ) mm (yp δ) (yl δ)).1 → Vj x g yX8_leftBy cX8_leftBy 6 (Option.some FieldType.int) rmX8_leftBy (Qm x g rmX8_leftBy.cells rmX8_leftBy.slots (pI fun r M' => Fr (cF 25) [] M M' ∧ r = lefF σ δ h m z)) 0 0 M1 106 [(0, some (.ref (g.1 + 0))), (1, some (.int h)), (2, some (.int m)), (3, some (.int z)), (4, some (.int (feS σ h z (zN σ)))), (5, some (.int v))] [] := by
  intro n
  induction n with
  | zero => intro i v M1 lo1 ps1 him hn hv hF D1 hlo1 eQ; omega
  | succ n ih =>
    intro i v M1 lo1 ps1 him hn hv hF D1 hlo1 eQ
    obtain ⟨hs, w, dw, V, D, D2, D3, D4, D5, D6⟩ := id K
    have hs1 := hs.fr hF
    have V1 := V.fr hs w hF (by intro a ha; rw [cF_in] at ha; omega)
    refine r_iload dX8_leftBy_106 rfl ?_
    refine r_iload_n dX8_leftBy_108 rfl ?_
    refine r_icmp_ge 128 dX8_leftBy_109 (by decide) (fun c109 => ?_) (fun c109 => ?_)
    · skip
      rw [lp_ge (n := mm) hv em c109 him (by omega), Nat.sub_self] at eQ
      refine r_aload_n dX8_leftBy_128 rfl ?_
      refine r_aload_n dX8_leftBy_129 rfl ?_
      refine r_getR flX8_46_8 rfl (hs1.lt (by decide)) (hs1.T 0 rfl) (hs1.R 0 7 rfl) dX8_leftBy_130 ?_
      refine r_iload_n dX8_leftBy_133 rfl ?_
      refine r_cV2i cvX8_175 (kX8_worthIn g M1 25 (Or.inr (Or.inr rfl)) hs1 σ w V1 ps1 D1.1 h) (hs1.lt (by decide)) (hs1.T 0 rfl) ⟨Nat.le_of_ble_eq_true rfl, Nat.le_of_ble_eq_true rfl⟩ (Nat.le_of_ble_eq_true rfl) ⟨Nat.le_of_ble_eq_true rfl, Nat.le_of_ble_eq_true rfl⟩ dX8_leftBy_134 (fun r134 M134 h134 => ?_)
      obtain ⟨e134, h134⟩ := h134
      replace e134 := e134.symm
      subst e134
      refine r_iload dX8_leftBy_137 rfl ?_
      refine r_iload_n dX8_leftBy_139 rfl ?_
      refine r_imul dX8_leftBy_140 ?_
      refine r_isub dX8_leftBy_141 ?_
      exact r_iret dX8_leftBy_142 ⟨_, rfl, hF, by rw [lefF, show m.toNatClampNeg = mm by rw [em]; exact nI_clamp (by omega), ← eQ, h134]; rfl⟩
    · skip
      have hi : i < mm := lp_lt (n := mm) hv em c109 him (by omega)
      obtain ⟨n2, en2⟩ : ∃ n2, mm - i = n2 + 1 := ⟨mm - i - 1, by omega⟩
      refine r_aload_n dX8_leftBy_112 rfl ?_
      refine r_aload_n dX8_leftBy_113 rfl ?_
      refine r_getR flX8_46_8 rfl (hs1.lt (by decide)) (hs1.T 0 rfl) (hs1.R 0 7 rfl) dX8_leftBy_114 ?_
      refine r_iconst (v := -1) dX8_leftBy_117 (by decide) ?_
      refine r_cV2i cvX8_185 (kX8_monthWithout g M1 25 (Or.inr (Or.inr rfl)) hs1 σ w V1 (pdS σ h z (yq δ)) (yd δ) lo1 ps1 D1 hlo1 (-1)) (hs1.lt (by decide)) (hs1.T 0 rfl) ⟨Nat.le_of_ble_eq_true rfl, Nat.le_of_ble_eq_true rfl⟩ (Nat.le_of_ble_eq_true rfl) ⟨Nat.le_of_ble_eq_true rfl, Nat.le_of_ble_eq_true rfl⟩ dX8_leftBy_118 (fun r118 M118 h118 => ?_)
      obtain ⟨hF2, -, e3⟩ := h118
      rw [pass_all w] at e3
      refine r_pop dX8_leftBy_121 rfl ?_
      refine r_iinc dX8_leftBy_122 rfl rfl rfl ?_
      refine r_goto 106 dX8_leftBy_125 (by decide) ?_
      exact r_lv (lvSc rfl (lvSc rfl (lvSc rfl (lvSc rfl (lvSc rfl (lvSc rfl lvS0)))))) (ih (i + 1) _ _ _ _ (by omega) (by omega) (nI_inc hv) (hF.tr (hF2.mono (by intro a ha; simp at ha; rw [cF_in]; omega) (by simp))) e3 (lapF_0 hlo1) (by rw [show mm - (i + 1) = n2 by omega, ← eQ, en2]; rfl))
set_option maxHeartbeats 4000000 in
set_option maxRecDepth 100000 in
theorem lp_left1 (g : Gx) (x : Cx) (M : Mm) (σ : Ab) (δ : Dy) (K : CA σ δ M) (h m z : Int32) (mm : Nat) (em : m = nI mm) (hmm : mm ≤ 12) : ∀ (n : Nat) (i : Nat) (v b : Int32) (M1 : Mm), i ≤ zN σ → zN σ - i < n → v = nI i → Fr (cF 25) [] M M1 → CD 25 M1 σ (fun t => if t < i then pdS σ h z (yq δ) t else yq δ t) (yd δ) (yl δ) (yp δ) → b = feS σ h z i → Vj x g yX8_leftBy cX8_leftBy 6 (Option.some FieldType.int) rmX8_leftBy (Qm x g rmX8_leftBy.cells rmX8_leftBy.slots (pI fun r M' => Fr (cF 25) [] M M' ∧ r = lefF σ δ h m z)) 0 0 M1 17 [(0, some (.ref (g.1 + 0))), (1, some (.int h)), (2, some (.int m)), (3, some (.int z)), (4, some (.int b)), (5, some (.int v))] [] := by
  intro n
  induction n with
  | zero => intro i v b M1 hiN hn hv hF D1 hb; omega
  | succ n ih =>
    intro i v b M1 hiN hn hv hF D1 hb
    obtain ⟨hs, w, dw, V, D, D2, D3, D4, D5, D6⟩ := id K
    have hs1 := hs.fr hF
    have V1 := V.fr hs w hF (by intro a ha; rw [cF_in] at ha; omega)
    refine r_iload dX8_leftBy_17 rfl ?_
    refine r_aload_n dX8_leftBy_19 rfl ?_
    refine r_getI flX8_62_8 rfl (hs1.lt (by decide)) (hs1.T 0 rfl) dX8_leftBy_20 ?_
    refine r_icmp_ge 103 dX8_leftBy_23 (by decide) (fun c23 => ?_) (fun c23 => ?_)
    · skip
      have e0 := lp_ge (n := zN σ) hv V1.1 c23 hiN (by have := w.1; omega)
      subst e0
      subst hb
      refine r_iconst (v := 0) dX8_leftBy_103 (by decide) ?_
      refine r_istore dX8_leftBy_104 (by decide) rfl ?_
      exact r_lv (lvSc rfl (lvSc rfl (lvSc rfl (lvSc rfl (lvSc rfl (lvSc rfl lvS0)))))) (lp_left2 g x M σ δ K h m z mm em hmm (mm + 1) 0 0 M1 (yl δ) (yp δ) (by omega) (by omega) rfl hF ⟨D1.1, D1.2.1, D1.2.2.1, fun t ht => by have q := D1.2.2.2 t ht; simp only [ht, if_true] at q; exact q⟩ dw.1 rfl)
    · skip
      have hi : i < zN σ := lp_lt (n := zN σ) hv V1.1 c23 hiN (by have := w.1; omega)
      have h8 : i < 8 := Nat.lt_of_lt_of_le hi w.1
      obtain ⟨a, eR, ha, ht, ek, ep, er, ef, h36, -⟩ := hs1.th w V1 hi
      refine r_aload_n dX8_leftBy_26 rfl ?_
      refine r_getR flX8_25_8 rfl (hs1.lt (by decide)) (hs1.T 0 rfl) (hs1.R 0 2 rfl) dX8_leftBy_27 ?_
      refine r_iload dX8_leftBy_30 rfl ?_
      refine r_aal (hs1.T 8 rfl) (hs1.lt (by decide)) (ix_of hv h8 (by decide)) eR dX8_leftBy_32 ?_
      refine r_getTh flX8_141_7 flX8_141_6 flX8_141_0 flX8_141_2 flX8_141_3 (by decide) ha ht dX8_leftBy_33 ?_
      refine r_iload_n dX8_leftBy_36 rfl ?_
      refine r_icmp_ne 97 dX8_leftBy_37 (by decide) (fun c37 => ?_) (fun c37 => ?_)
      · skip
        refine r_iinc dX8_leftBy_97 rfl rfl rfl ?_
        refine r_goto 17 dX8_leftBy_100 (by decide) ?_
        first
          | exact r_lv (lvSc rfl (lvSc rfl (lvSc rfl (lvSc rfl (lvSc rfl (lvSc rfl lvS0)))))) (ih (i + 1) _ _ _ (by omega) (by omega) (nI_inc hv) hF ⟨D1.1, D1.2.1, D1.2.2.1, fun t ht => by
              have q := D1.2.2.2 t ht
              by_cases e : t = i
              · subst e
                simp only [Nat.lt_irrefl, if_false] at q
                simp only [Nat.lt_succ_self, if_true, pdS, if_neg (show ¬ zp σ t = h from fun z => c37 (ep.trans z))]
                exact q
              · by_cases e2 : t < i
                · simp only [e2, if_true] at q
                  simp only [show t < i + 1 by omega, if_true]
                  exact q
                · simp only [e2, if_false] at q
                  simp only [show ¬ t < i + 1 by omega, if_false]
                  exact q⟩ (by rw [feS, sumF, if_neg (show ¬ zp σ i = h from fun z => c37 (ep.trans z)), hb, feS]; exact (Int32.add_zero _).symm))
          | exact r_lv (lvSc rfl (lvSc rfl (lvSc rfl (lvSc rfl (lvSc rfl (lvSc rfl lvS0)))))) (ih (i + 1) _ _ _ (by omega) (by omega) (nI_inc hv) (hF.sI (cF_in.mpr (by omega))) ⟨fun s hs => by rw [mI_sI_ne (by decide)]; exact D1.1 s hs, fun s hs => by rw [mI_sI_ne (by decide)]; exact D1.2.1 s hs, fun s hs => by rw [mI_sI_ne (by decide)]; exact D1.2.2.1 s hs, fun t ht => by
              rw [mI_sI, va_up_if]
              have q := D1.2.2.2 t ht
              by_cases e : t = i
              · subst e
                simp only [if_true, Nat.lt_succ_self, pdS, if_pos (show zp σ t = h from ep.symm.trans c37)]
                exact ⟨hu, bit01 z t⟩
              · rw [if_neg e]
                by_cases e2 : t < i
                · simp only [e2, if_true] at q
                  simp only [show t < i + 1 by omega, if_true]
                  exact q
                · simp only [e2, if_false] at q
                  simp only [show ¬ t < i + 1 by omega, if_false]
                  exact q⟩ (by rw [feS, sumF, if_pos (show zp σ i = h from ep.symm.trans c37), hb, feS, hq]))
      · skip
        refine r_aload_n dX8_leftBy_40 rfl ?_
        refine r_getR flX8_46_8 rfl (hs1.lt (by decide)) (hs1.T 0 rfl) (hs1.R 0 7 rfl) dX8_leftBy_41 ?_
        refine r_getR flX8_126_1 rfl (hs1.lt (by decide)) (hs1.T 25 rfl) (hs1.R 25 4 rfl) dX8_leftBy_44 ?_
        refine r_iload dX8_leftBy_47 rfl ?_
        refine r_dia (P := fun u => u = bitI z i) 64 (fun u hu => ?_) (fun hJ64 => ?_)
        · skip
          refine r_zas (hs1.T 30 rfl) (hs1.lt (by decide)) (ix_of hv h8 (by decide)) (by rw [hu]; exact bit01 z i) dX8_leftBy_64 ?_
          refine r_iload dX8_leftBy_65 rfl ?_
          refine r_dia (P := fun q => q = (if bitI z i = 0 then 0 else zf σ i)) 94 (fun q hq => ?_) (fun hJ94 => ?_)
          · skip
            refine r_iadd dX8_leftBy_94 ?_
            refine r_istore dX8_leftBy_95 (by decide) rfl ?_
            refine r_iinc dX8_leftBy_97 rfl rfl rfl ?_
            refine r_goto 17 dX8_leftBy_100 (by decide) ?_
            first
              | exact r_lv (lvSc rfl (lvSc rfl (lvSc rfl (lvSc rfl (lvSc rfl (lvSc rfl lvS0)))))) (ih (i + 1) _ _ _ (by omega) (by omega) (nI_inc hv) hF ⟨D1.1, D1.2.1, D1.2.2.1, fun t ht => by
                  have q := D1.2.2.2 t ht
                  by_cases e : t = i
                  · subst e
                    simp only [Nat.lt_irrefl, if_false] at q
                    simp only [Nat.lt_succ_self, if_true, pdS, if_neg (show ¬ zp σ t = h from fun z => c37 (ep.trans z))]
                    exact q
                  · by_cases e2 : t < i
                    · simp only [e2, if_true] at q
                      simp only [show t < i + 1 by omega, if_true]
                      exact q
                    · simp only [e2, if_false] at q
                      simp only [show ¬ t < i + 1 by omega, if_false]
                      exact q⟩ (by rw [feS, sumF, if_neg (show ¬ zp σ i = h from fun z => c37 (ep.trans z)), hb, feS]; exact (Int32.add_zero _).symm))
              | exact r_lv (lvSc rfl (lvSc rfl (lvSc rfl (lvSc rfl (lvSc rfl (lvSc rfl lvS0)))))) (ih (i + 1) _ _ _ (by omega) (by omega) (nI_inc hv) (hF.sI (cF_in.mpr (by omega))) ⟨fun s hs => by rw [mI_sI_ne (by decide)]; exact D1.1 s hs, fun s hs => by rw [mI_sI_ne (by decide)]; exact D1.2.1 s hs, fun s hs => by rw [mI_sI_ne (by decide)]; exact D1.2.2.1 s hs, fun t ht => by
                  rw [mI_sI, va_up_if]
                  have q := D1.2.2.2 t ht
                  by_cases e : t = i
                  · subst e
                    simp only [if_true, Nat.lt_succ_self, pdS, if_pos (show zp σ t = h from ep.symm.trans c37)]
                    exact ⟨hu, bit01 z t⟩
                  · rw [if_neg e]
                    by_cases e2 : t < i
                    · simp only [e2, if_true] at q
                      simp only [show t < i + 1 by omega, if_true]
                      exact q
                    · simp only [e2, if_false] at q
                      simp only [show ¬ t < i + 1 by omega, if_false]
                      exact q⟩ (by rw [feS, sumF, if_pos (show zp σ i = h from ep.symm.trans c37), hb, feS, hq]))
          · skip
            refine r_aload_n dX8_leftBy_67 rfl ?_
            refine r_getR flX8_46_8 rfl (hs1.lt (by decide)) (hs1.T 0 rfl) (hs1.R 0 7 rfl) dX8_leftBy_68 ?_
            refine r_getR flX8_126_1 rfl (hs1.lt (by decide)) (hs1.T 25 rfl) (hs1.R 25 4 rfl) dX8_leftBy_71 ?_
            refine r_iload dX8_leftBy_74 rfl ?_
            refine r_zal (hs1.T 30 rfl) (hs1.lt (by decide)) (ix_of hv h8 (by decide)) dX8_leftBy_76 ?_
            refine r_if_eq 93 dX8_leftBy_77 (by decide) (fun c77 => ?_) (fun c77 => ?_)
            · skip
              refine r_iconst (v := 0) dX8_leftBy_93 (by decide) ?_
              exact hJ94 _ (by rw [mI_sI, va_up_self, hu] at c77; simp [c77]; try (exact (congrFun (mI_sI_ne (by omega)) 2).trans ef))
            · skip
              refine r_aload_n dX8_leftBy_80 rfl ?_
              refine r_getR flX8_25_8 rfl (hs1.lt (by decide)) (hs1.T 0 rfl) (hs1.R 0 2 rfl) dX8_leftBy_81 ?_
              refine r_iload dX8_leftBy_84 rfl ?_
              refine r_aal (hs1.T 8 rfl) (hs1.lt (by decide)) (ix_of hv h8 (by decide)) eR dX8_leftBy_86 ?_
              refine r_getTh flX8_146_7 flX8_146_6 flX8_146_0 flX8_146_2 flX8_146_3 (by decide) ha ht dX8_leftBy_87 ?_
              refine r_goto 94 dX8_leftBy_90 (by decide) ?_
              exact hJ94 _ (by rw [mI_sI, va_up_self, hu] at c77; simp [c77]; try (exact (congrFun (mI_sI_ne (by omega)) 2).trans ef))
        · skip
          refine r_iload_n dX8_leftBy_49 rfl ?_
          refine r_iload dX8_leftBy_50 rfl ?_
          refine r_ishr dX8_leftBy_52 ?_
          refine r_iconst (v := 1) dX8_leftBy_53 (by decide) ?_
          refine r_iand dX8_leftBy_54 ?_
          refine r_iconst (v := 1) dX8_leftBy_55 (by decide) ?_
          refine r_icmp_ne 63 dX8_leftBy_56 (by decide) (fun c56 => ?_) (fun c56 => ?_)
          · skip
            refine r_iconst (v := 0) dX8_leftBy_63 (by decide) ?_
            first
              | exact hJ64 _ (by rw [hv] at c56; exact ((bit01 z i).resolve_right c56).symm)
              | exact hJ64 _ (by rw [hv] at c56; exact c56.symm)
          · skip
            refine r_iconst (v := 1) dX8_leftBy_59 (by decide) ?_
            refine r_goto 64 dX8_leftBy_60 (by decide) ?_
            first
              | exact hJ64 _ (by rw [hv] at c56; exact ((bit01 z i).resolve_right c56).symm)
              | exact hJ64 _ (by rw [hv] at c56; exact c56.symm)
set_option maxHeartbeats 4000000 in
set_option maxRecDepth 100000 in
theorem kX8_leftBy (g : Gx) (M : Mm) (σ : Ab) (δ : Dy) (K : CA σ δ M) (h m z : Int32) (mm : Nat) (em : m = nI mm) (hmm : mm ≤ 12) : Ct g yX8_leftBy cX8_leftBy 6 (Option.some FieldType.int) rmX8_leftBy [.ref (g.1 + 0), .int h, .int m, .int z] M (pI fun r M' => Fr (cF 25) [] M M' ∧ r = lefF σ δ h m z) := by
  obtain ⟨hs, w, dw, V, D, D2, D3, D4, D5, D6⟩ := id K
  refine Ct.of rfl (Nat.le_of_ble_eq_true rfl) (fun x => ?_)
  refine r_aload_n dX8_leftBy_0 rfl ?_
  refine r_getR flX8_46_8 rfl (hs.lt (by decide)) (hs.T 0 rfl) (hs.R 0 7 rfl) dX8_leftBy_1 ?_
  refine r_aload_n dX8_leftBy_4 rfl ?_
  refine r_getR flX8_39_8 rfl (hs.lt (by decide)) (hs.T 0 rfl) (hs.R 0 5 rfl) dX8_leftBy_5 ?_
  refine r_cV1v cvX8_188 (kX1_takeOver g M 25 11 (Or.inr (Or.inr rfl)) (Or.inl rfl) (by decide) hs D6) (hs.lt (by decide)) (hs.T 25 rfl) ⟨Nat.le_of_ble_eq_true rfl, Nat.le_of_ble_eq_true rfl⟩ (Nat.le_of_ble_eq_true rfl) ⟨Nat.le_of_ble_eq_true rfl, Nat.le_of_ble_eq_true rfl⟩ dX8_leftBy_8 (fun M8 h8 => ?_)
  obtain ⟨hF, hcp, h6, h7⟩ := h8
  have CC2 := CC.copy w K.2.2.2.2 hcp h6 h7
  have V2 := V.fr hs w hF (by intro a ha; rw [cF_in] at ha; omega)
  refine r_iconst (v := 0) dX8_leftBy_11 (by decide) ?_
  refine r_istore dX8_leftBy_12 (by decide) rfl ?_
  refine r_iconst (v := 0) dX8_leftBy_14 (by decide) ?_
  refine r_istore dX8_leftBy_15 (by decide) rfl ?_
  exact r_lv (lvSc rfl (lvSc rfl (lvSc rfl (lvSc rfl (lvSc rfl (lvSc rfl lvS0)))))) (lp_left1 g x M σ δ K h m z mm em hmm (zN σ + 1) 0 0 0 _ (by omega) (by omega) rfl hF ⟨CC2.1.1, CC2.1.2.1, CC2.1.2.2.1, fun t ht => by simp only [Nat.not_lt_zero, if_false]; exact CC2.1.2.2.2 t ht⟩ rfl)
