def ush (a n : Int32) : Int32 := (a.toUInt32 >>> (n.toUInt32 &&& Int32.toUInt32 31)).toInt32
def bcE1 (v : Int32) : Int32 := v - (ush v 1 &&& 1431655765)
def bcE2 (v : Int32) : Int32 := (v &&& 858993459) + (ush v 2 &&& 858993459)
def bcE3 (v : Int32) : Int32 := (v + ush v 4) &&& 252645135
def bcE4 (v : Int32) : Int32 := v + ush v 8
def bcE5 (v : Int32) : Int32 := (v + ush v 16) &&& 63
theorem bcE_ok : ∀ k, k < 256 → bcE5 (bcE4 (bcE3 (bcE2 (bcE1 (nI k))))) = nI (popN k) := by decide +kernel
def rmJ6_bitCount_0f7a4 : Room := { frames := 0, cells := 0, slots := 0, locals := 0 }
set_option maxHeartbeats 4000000 in
set_option maxRecDepth 100000 in
theorem kJ6_bitCount (g : Gx) (M : Mm) (k : Nat) (hk : k < 256) : Ct g yJ6_bitCount_0f7a4 cJ6_bitCount_0f7a4 1 (Option.some FieldType.int) rmJ6_bitCount_0f7a4 [.int (nI k)] M (pI fun r M' => M' = M ∧ r = nI (popN k)) := by
  refine Ct.of rfl (Nat.le_of_ble_eq_true rfl) (fun x => ?_)
  refine r_iload_n dJ6_bitCount_0f7a4_0 rfl ?_
  refine r_iload_n dJ6_bitCount_0f7a4_1 rfl ?_
  refine r_iconst (v := 1) dJ6_bitCount_0f7a4_2 (by decide) ?_
  refine r_iushr dJ6_bitCount_0f7a4_3 ?_
  refine r_ldc_w (v := 1431655765) dJ6_bitCount_0f7a4_4 tw528 ?_
  refine r_iand dJ6_bitCount_0f7a4_7 ?_
  refine r_isub dJ6_bitCount_0f7a4_8 ?_
  refine r_top (fun u1 q1 => ?_)
  refine r_istore_n dJ6_bitCount_0f7a4_9 (by decide) rfl ?_
  refine r_iload_n dJ6_bitCount_0f7a4_10 rfl ?_
  refine r_ldc_w (v := 858993459) dJ6_bitCount_0f7a4_11 tw529 ?_
  refine r_iand dJ6_bitCount_0f7a4_14 ?_
  refine r_iload_n dJ6_bitCount_0f7a4_15 rfl ?_
  refine r_iconst (v := 2) dJ6_bitCount_0f7a4_16 (by decide) ?_
  refine r_iushr dJ6_bitCount_0f7a4_17 ?_
  refine r_ldc_w (v := 858993459) dJ6_bitCount_0f7a4_18 tw529 ?_
  refine r_iand dJ6_bitCount_0f7a4_21 ?_
  refine r_iadd dJ6_bitCount_0f7a4_22 ?_
  refine r_top (fun u2 q2 => ?_)
  refine r_istore_n dJ6_bitCount_0f7a4_23 (by decide) rfl ?_
  refine r_iload_n dJ6_bitCount_0f7a4_24 rfl ?_
  refine r_iload_n dJ6_bitCount_0f7a4_25 rfl ?_
  refine r_iconst (v := 4) dJ6_bitCount_0f7a4_26 (by decide) ?_
  refine r_iushr dJ6_bitCount_0f7a4_27 ?_
  refine r_iadd dJ6_bitCount_0f7a4_28 ?_
  refine r_ldc_w (v := 252645135) dJ6_bitCount_0f7a4_29 tw530 ?_
  refine r_iand dJ6_bitCount_0f7a4_32 ?_
  refine r_top (fun u3 q3 => ?_)
  refine r_istore_n dJ6_bitCount_0f7a4_33 (by decide) rfl ?_
  refine r_iload_n dJ6_bitCount_0f7a4_34 rfl ?_
  refine r_iload_n dJ6_bitCount_0f7a4_35 rfl ?_
  refine r_bipush (v := 8) dJ6_bitCount_0f7a4_36 (by decide) ?_
  refine r_iushr dJ6_bitCount_0f7a4_38 ?_
  refine r_iadd dJ6_bitCount_0f7a4_39 ?_
  refine r_top (fun u4 q4 => ?_)
  refine r_istore_n dJ6_bitCount_0f7a4_40 (by decide) rfl ?_
  refine r_iload_n dJ6_bitCount_0f7a4_41 rfl ?_
  refine r_iload_n dJ6_bitCount_0f7a4_42 rfl ?_
  refine r_bipush (v := 16) dJ6_bitCount_0f7a4_43 (by decide) ?_
  refine r_iushr dJ6_bitCount_0f7a4_45 ?_
  refine r_iadd dJ6_bitCount_0f7a4_46 ?_
  refine r_istore_n dJ6_bitCount_0f7a4_47 (by decide) rfl ?_
  refine r_iload_n dJ6_bitCount_0f7a4_48 rfl ?_
  refine r_bipush (v := 63) dJ6_bitCount_0f7a4_49 (by decide) ?_
  refine r_iand dJ6_bitCount_0f7a4_51 ?_
  exact r_iret dJ6_bitCount_0f7a4_52 ⟨_, rfl, rfl, by rw [← bcE_ok k hk]; subst q1; subst q2; subst q3; subst q4; rfl⟩
def rmX8_bestSet : Room := { frames := 5, cells := 0, slots := 0, locals := 124 }
set_option maxHeartbeats 4000000 in
set_option maxRecDepth 100000 in
theorem lp_best (g : Gx) (x : Cx) (M : Mm) (σ : Ab) (δ : Dy) (K : CA σ δ M) (h m : Int32) (mm : Nat) (em : m = nI mm) (hmm : mm ≤ 12) : ∀ (n : Nat) (i : Nat) (v b mo : Int32) (M1 : Mm), 1 ≤ i → i ≤ 2 ^ zN σ → 2 ^ zN σ - i < n → v = nI i → Fr (cF 25) [] M M1 → b = nI (bsF σ δ h m i).1 → mo = (bsF σ δ h m i).2 → Vj x g yX8_bestSet cX8_bestSet 8 (Option.some FieldType.int) rmX8_bestSet (Qm x g rmX8_bestSet.cells rmX8_bestSet.slots (pI fun r M' => Fr (cF 25) [] M M' ∧ r = nI (bsF σ δ h m (2 ^ zN σ)).1)) 0 0 M1 21 [(0, some (.ref (g.1 + 0))), (1, some (.int h)), (2, some (.int m)), (3, some (.int (orF σ h (zN σ)))), (4, some (.int b)), (5, some (.int mo)), (6, some (.int v))] [] := by
  intro n
  induction n with
  | zero => intro i v b mo M1 hi1 hiN hn hv hF hb ho; omega
  | succ n ih =>
    intro i v b mo M1 hi1 hiN hn hv hF hb ho
    obtain ⟨hs, w, dw, V, D, D2, D3, D4, D5, D6⟩ := id K
    have hs1 := hs.fr hF
    have K1 := K.fr hF (by intro a ha; rw [cF_in] at ha; unfold okK; omega)
    have V1 := K1.2.2.2.1
    subst hv
    have hv : nI i = nI i := rfl
    have hbi := (bsF_inv w δ h (m := m) (by rw [em]; exact nI_pos' (by omega)) (by rw [em]; exact nI_le (b := 12) hmm (by decide)) i hi1).1
    subst hb
    have hb : nI (bsF σ δ h m i).1 = nI (bsF σ δ h m i).1 := rfl
    refine r_iload dX8_bestSet_21 rfl ?_
    refine r_iconst (v := 1) dX8_bestSet_23 (by decide) ?_
    refine r_aload_n dX8_bestSet_24 rfl ?_
    refine r_getI flX8_62_8 rfl (hs1.lt (by decide)) (hs1.T 0 rfl) dX8_bestSet_25 ?_
    refine r_ishl dX8_bestSet_28 ?_
    refine r_icmp_ge 92 dX8_bestSet_29 (by decide) (fun c29 => ?_) (fun c29 => ?_)
    · skip
      have e0 := lp_ge (n := 2 ^ zN σ) hv (show (1 : Int32) <<< (mI M1 0 12 &&& 31) = nI (2 ^ zN σ) by rw [V1.1]; exact shl1 w.1) c29 hiN (by have := pow8 w.1; omega)
      subst e0
      refine r_iload dX8_bestSet_92 rfl ?_
      exact r_iret dX8_bestSet_94 ⟨_, rfl, hF, hb⟩
    · skip
      have hi : i < 2 ^ zN σ := lp_lt (n := 2 ^ zN σ) hv (show (1 : Int32) <<< (mI M1 0 12 &&& 31) = nI (2 ^ zN σ) by rw [V1.1]; exact shl1 w.1) c29 hiN (by have := pow8 w.1; omega)
      have h256 : i < 256 := Nat.lt_of_lt_of_le hi (pow8 w.1)
      refine r_iload dX8_bestSet_32 rfl ?_
      refine r_iload_n dX8_bestSet_34 rfl ?_
      refine r_iconst (v := -1) dX8_bestSet_35 (by decide) ?_
      refine r_ixor dX8_bestSet_36 ?_
      refine r_iand dX8_bestSet_37 ?_
      refine r_if_ne 86 dX8_bestSet_38 (by decide) (fun c38 => ?_) (fun c38 => ?_)
      · skip
        refine r_iinc dX8_bestSet_86 rfl rfl rfl ?_
        refine r_goto 21 dX8_bestSet_89 (by decide) ?_
        exact r_lv (lvSc rfl (lvSc rfl (lvSc rfl (lvSc rfl (lvSc rfl (lvSc rfl (lvSc rfl lvS0))))))) (ih (i + 1) _ _ _ _ (by omega) (by omega) (by omega) (nI_inc rfl) hF (by rw [bsF, if_neg (fun q => c38 q.1)]) (by rw [bsF, if_neg (fun q => c38 q.1)]; exact ho))
      · skip
        refine r_aload_n dX8_bestSet_41 rfl ?_
        refine r_iload_n dX8_bestSet_42 rfl ?_
        refine r_iload_n dX8_bestSet_43 rfl ?_
        refine r_iload dX8_bestSet_44 rfl ?_
        refine r_cV3i cvX8_213 (kX8_leftBy g M1 σ δ K1 h m (nI i) mm em hmm) (hs1.lt (by decide)) (hs1.T 0 rfl) ⟨Nat.le_of_ble_eq_true rfl, Nat.le_of_ble_eq_true rfl⟩ (Nat.le_of_ble_eq_true rfl) ⟨Nat.le_of_ble_eq_true rfl, Nat.le_of_ble_eq_true rfl⟩ dX8_bestSet_46 (fun r46 M46 h46 => ?_)
        obtain ⟨hF2, h46⟩ := h46
        refine r_istore dX8_bestSet_49 (by decide) rfl ?_
        refine r_iload dX8_bestSet_51 rfl ?_
        refine r_iload dX8_bestSet_53 rfl ?_
        refine r_icmp_gt 78 dX8_bestSet_55 (by decide) (fun c55 => ?_) (fun c55 => ?_)
        · skip
          refine r_iload dX8_bestSet_78 rfl ?_
          refine r_istore dX8_bestSet_80 (by decide) rfl ?_
          refine r_iload dX8_bestSet_82 rfl ?_
          refine r_istore dX8_bestSet_84 (by decide) rfl ?_
          refine r_iinc dX8_bestSet_86 rfl rfl rfl ?_
          refine r_goto 21 dX8_bestSet_89 (by decide) ?_
          exact r_lv (lvSc rfl (lvSc rfl (lvSc rfl (lvSc rfl (lvSc rfl (lvSc rfl (lvSc rfl lvS0))))))) (ih (i + 1) _ _ _ _ (by omega) (by omega) (by omega) (nI_inc rfl) (hF.tr hF2) (by rw [bsF, if_pos ⟨c38, Or.inl (by rw [← h46, ← ho]; exact c55)⟩]) (by rw [bsF, if_pos ⟨c38, Or.inl (by rw [← h46, ← ho]; exact c55)⟩]; exact h46))
        · skip
          refine r_iload dX8_bestSet_58 rfl ?_
          refine r_iload dX8_bestSet_60 rfl ?_
          refine r_icmp_ne 86 dX8_bestSet_62 (by decide) (fun c62 => ?_) (fun c62 => ?_)
          · skip
            refine r_iinc dX8_bestSet_86 rfl rfl rfl ?_
            refine r_goto 21 dX8_bestSet_89 (by decide) ?_
            have hno : ¬ (nI i &&& (orF σ h (zN σ) ^^^ -1) = 0 ∧ ((bsF σ δ h m i).2 < lefF σ δ h m (nI i) ∨ (lefF σ δ h m (nI i) = (bsF σ δ h m i).2 ∧ popN i < popN (bsF σ δ h m i).1))) := fun q => q.2.elim (fun z => c55 (by rw [h46, ho]; exact z)) (fun z => c62 (by rw [h46, ho]; exact z.1))
            exact r_lv (lvSc rfl (lvSc rfl (lvSc rfl (lvSc rfl (lvSc rfl (lvSc rfl (lvSc rfl lvS0))))))) (ih (i + 1) _ _ _ _ (by omega) (by omega) (by omega) (nI_inc rfl) (hF.tr hF2) (by rw [bsF, if_neg hno]) (by rw [bsF, if_neg hno]; exact ho))
          · skip
            refine r_iload dX8_bestSet_65 rfl ?_
            refine r_cS1i csX8_321 (kJ6_bitCount g M46 i h256) (hs1.fr hF2).pos ⟨Nat.le_of_ble_eq_true rfl, Nat.le_of_ble_eq_true rfl⟩ (Nat.le_of_ble_eq_true rfl) ⟨Nat.le_of_ble_eq_true rfl, Nat.le_of_ble_eq_true rfl⟩ dX8_bestSet_67 (fun r67 M67 h67 => ?_)
            obtain ⟨e67, h67⟩ := h67
            replace e67 := e67.symm
            subst e67
            refine r_iload dX8_bestSet_70 rfl ?_
            refine r_cS1i csX8_321 (kJ6_bitCount g M46 (bsF σ δ h m i).1 (by omega)) (hs1.fr hF2).pos ⟨Nat.le_of_ble_eq_true rfl, Nat.le_of_ble_eq_true rfl⟩ (Nat.le_of_ble_eq_true rfl) ⟨Nat.le_of_ble_eq_true rfl, Nat.le_of_ble_eq_true rfl⟩ dX8_bestSet_72 (fun r72 M72 h72 => ?_)
            obtain ⟨e72, h72⟩ := h72
            replace e72 := e72.symm
            subst e72
            refine r_icmp_ge 86 dX8_bestSet_75 (by decide) (fun c75 => ?_) (fun c75 => ?_)
            · skip
              have hpc : ¬ popN i < popN (bsF σ δ h m i).1 := fun q => absurd c75 (by rw [h67, h72]; exact nI_ge q (by unfold popN; omega))
              refine r_iinc dX8_bestSet_86 rfl rfl rfl ?_
              refine r_goto 21 dX8_bestSet_89 (by decide) ?_
              have hno : ¬ (nI i &&& (orF σ h (zN σ) ^^^ -1) = 0 ∧ ((bsF σ δ h m i).2 < lefF σ δ h m (nI i) ∨ (lefF σ δ h m (nI i) = (bsF σ δ h m i).2 ∧ popN i < popN (bsF σ δ h m i).1))) := fun q => q.2.elim (fun z => c55 (by rw [h46, ho]; exact z)) (fun z => hpc z.2)
              exact r_lv (lvSc rfl (lvSc rfl (lvSc rfl (lvSc rfl (lvSc rfl (lvSc rfl (lvSc rfl lvS0))))))) (ih (i + 1) _ _ _ _ (by omega) (by omega) (by omega) (nI_inc rfl) (hF.tr hF2) (by rw [bsF, if_neg hno]) (by rw [bsF, if_neg hno]; exact ho))
            · skip
              have hpc : popN i < popN (bsF σ δ h m i).1 := by rcases Nat.lt_or_ge (popN i) (popN (bsF σ δ h m i).1) with q | q; exact q; exfalso; apply c75; rw [h67, h72]; exact nI_le q (by unfold popN; omega)
              refine r_iload dX8_bestSet_78 rfl ?_
              refine r_istore dX8_bestSet_80 (by decide) rfl ?_
              refine r_iload dX8_bestSet_82 rfl ?_
              refine r_istore dX8_bestSet_84 (by decide) rfl ?_
              refine r_iinc dX8_bestSet_86 rfl rfl rfl ?_
              refine r_goto 21 dX8_bestSet_89 (by decide) ?_
              exact r_lv (lvSc rfl (lvSc rfl (lvSc rfl (lvSc rfl (lvSc rfl (lvSc rfl (lvSc rfl lvS0))))))) (ih (i + 1) _ _ _ _ (by omega) (by omega) (by omega) (nI_inc rfl) (hF.tr hF2) (by rw [bsF, if_pos ⟨c38, Or.inr ⟨by rw [← h46, ← ho]; exact c62, hpc⟩⟩]) (by rw [bsF, if_pos ⟨c38, Or.inr ⟨by rw [← h46, ← ho]; exact c62, hpc⟩⟩]; exact h46))
set_option maxHeartbeats 4000000 in
set_option maxRecDepth 100000 in
theorem kX8_bestSet (g : Gx) (M : Mm) (σ : Ab) (δ : Dy) (K : CA σ δ M) (h m : Int32) (mm : Nat) (em : m = nI mm) (hmm : mm ≤ 12) : Ct g yX8_bestSet cX8_bestSet 8 (Option.some FieldType.int) rmX8_bestSet [.ref (g.1 + 0), .int h, .int m] M (pI fun r M' => Fr (cF 25) [] M M' ∧ r = nI (bsF σ δ h m (2 ^ zN σ)).1) := by
  obtain ⟨hs, w, dw, V, D, D2, D3, D4, D5, D6⟩ := id K
  refine Ct.of rfl (Nat.le_of_ble_eq_true rfl) (fun x => ?_)
  refine r_aload_n dX8_bestSet_0 rfl ?_
  refine r_iload_n dX8_bestSet_1 rfl ?_
  refine r_cV1i cvX8_318 (kX8_couldBePaidBy g M hs σ w V h) (hs.lt (by decide)) (hs.T 0 rfl) ⟨Nat.le_of_ble_eq_true rfl, Nat.le_of_ble_eq_true rfl⟩ (Nat.le_of_ble_eq_true rfl) ⟨Nat.le_of_ble_eq_true rfl, Nat.le_of_ble_eq_true rfl⟩ dX8_bestSet_2 (fun r2 M2 h2 => ?_)
  obtain ⟨e2, h2⟩ := h2
  replace e2 := e2.symm
  subst e2
  subst h2
  refine r_istore_n dX8_bestSet_5 (by decide) rfl ?_
  refine r_iconst (v := 0) dX8_bestSet_6 (by decide) ?_
  refine r_istore dX8_bestSet_7 (by decide) rfl ?_
  refine r_aload_n dX8_bestSet_9 rfl ?_
  refine r_iload_n dX8_bestSet_10 rfl ?_
  refine r_iload_n dX8_bestSet_11 rfl ?_
  refine r_iconst (v := 0) dX8_bestSet_12 (by decide) ?_
  refine r_cV3i cvX8_213 (kX8_leftBy g M σ δ K h m 0 mm em hmm) (hs.lt (by decide)) (hs.T 0 rfl) ⟨Nat.le_of_ble_eq_true rfl, Nat.le_of_ble_eq_true rfl⟩ (Nat.le_of_ble_eq_true rfl) ⟨Nat.le_of_ble_eq_true rfl, Nat.le_of_ble_eq_true rfl⟩ dX8_bestSet_13 (fun r13 M13 h13 => ?_)
  obtain ⟨hF2, h13⟩ := h13
  have e1 := bsF_1 w δ h (m := m) (by rw [em]; exact nI_pos' (by omega)) (by rw [em]; exact nI_le (b := 12) hmm (by decide))
  refine r_istore dX8_bestSet_16 (by decide) rfl ?_
  refine r_iconst (v := 1) dX8_bestSet_18 (by decide) ?_
  refine r_istore dX8_bestSet_19 (by decide) rfl ?_
  exact r_lv (lvSc rfl (lvSc rfl (lvSc rfl (lvSc rfl (lvSc rfl (lvSc rfl (lvSc rfl lvS0))))))) (lp_best g x M σ δ K h m mm em hmm (2 ^ zN σ + 1) 1 1 _ _ _ (Nat.le_refl 1) Nat.one_le_two_pow (by have : 1 ≤ 2 ^ zN σ := Nat.one_le_two_pow; omega) rfl hF2 (by rw [e1]; rfl) (by rw [e1]; exact h13))
def rmX8_whom : Room := { frames := 6, cells := 0, slots := 0, locals := 151 }
set_option maxHeartbeats 4000000 in
set_option maxRecDepth 100000 in
theorem kX8_whom (g : Gx) (M : Mm) (σ : Ab) (δ : Dy) (K : CA σ δ M) (h m z : Int32) : Ct g yX8_whom cX8_whom 5 (Option.some FieldType.int) rmX8_whom [.ref (g.1 + 0), .int h, .int m, .int z] M (pI fun r M' => Fr (cF 25) [] M M' ∧ r = whmR σ δ h m z) := by
  obtain ⟨hs, w, dw, V, D, D2, D3, D4, D5, D6⟩ := id K
  refine Ct.of rfl (Nat.le_of_ble_eq_true rfl) (fun x => ?_)
  refine r_iload_n dX8_whom_0 rfl ?_
  refine r_cS1i csX8_157 (kX8_isHouse g M h) hs.pos ⟨Nat.le_of_ble_eq_true rfl, Nat.le_of_ble_eq_true rfl⟩ (Nat.le_of_ble_eq_true rfl) ⟨Nat.le_of_ble_eq_true rfl, Nat.le_of_ble_eq_true rfl⟩ dX8_whom_1 (fun r1 M1 h1 => ?_)
  obtain ⟨e1, h1⟩ := h1
  replace e1 := e1.symm
  subst e1
  refine r_if_ne 10 dX8_whom_4 (by decide) (fun c4 => ?_) (fun c4 => ?_)
  · skip
    refine r_iload_n dX8_whom_10 rfl ?_
    refine r_if_lt 29 dX8_whom_11 (by decide) (fun c11 => ?_) (fun c11 => ?_)
    · skip
      refine r_ldc (v := -100102) dX8_whom_29 tw511 ?_
      exact r_iret dX8_whom_31 ⟨_, rfl, Fr.rf _ _ _, by rw [whmR, if_pos (one_of h1 c4), if_neg (by grind)]⟩
    · skip
      refine r_iload_n dX8_whom_14 rfl ?_
      refine r_bipush (v := 12) dX8_whom_15 (by decide) ?_
      refine r_icmp_gt 29 dX8_whom_17 (by decide) (fun c17 => ?_) (fun c17 => ?_)
      · skip
        refine r_ldc (v := -100102) dX8_whom_29 tw511 ?_
        exact r_iret dX8_whom_31 ⟨_, rfl, Fr.rf _ _ _, by rw [whmR, if_pos (one_of h1 c4), if_neg (by grind)]⟩
      · skip
        refine r_iload_n dX8_whom_20 rfl ?_
        refine r_if_lt 29 dX8_whom_21 (by decide) (fun c21 => ?_) (fun c21 => ?_)
        · skip
          refine r_ldc (v := -100102) dX8_whom_29 tw511 ?_
          exact r_iret dX8_whom_31 ⟨_, rfl, Fr.rf _ _ _, by rw [whmR, if_pos (one_of h1 c4), if_neg (by grind)]⟩
        · skip
          refine r_iload_n dX8_whom_24 rfl ?_
          refine r_iconst (v := 1) dX8_whom_25 (by decide) ?_
          refine r_icmp_le 32 dX8_whom_26 (by decide) (fun c26 => ?_) (fun c26 => ?_)
          · skip
            refine r_aload_n dX8_whom_32 rfl ?_
            refine r_getI flX8_62_8 rfl (hs.lt (by decide)) (hs.T 0 rfl) dX8_whom_33 ?_
            refine r_if_ne 42 dX8_whom_36 (by decide) (fun c36 => ?_) (fun c36 => ?_)
            · skip
              rw [V.1, nI_zero w.1] at c36
              obtain ⟨mm, hmm, em⟩ := nI_rng (v := m) (n := 12) (by grind) (by show m ≤ 12; grind) (by decide)
              have hb2 := (bsF_inv w δ h (m := m) (by grind) (by grind) (2 ^ zN σ) Nat.one_le_two_pow).2
              refine r_aload_n dX8_whom_42 rfl ?_
              refine r_iload_n dX8_whom_43 rfl ?_
              refine r_iload_n dX8_whom_44 rfl ?_
              refine r_cV2i cvX8_209 (kX8_bestSet g M σ δ K h m mm em hmm) (hs.lt (by decide)) (hs.T 0 rfl) ⟨Nat.le_of_ble_eq_true rfl, Nat.le_of_ble_eq_true rfl⟩ (Nat.le_of_ble_eq_true rfl) ⟨Nat.le_of_ble_eq_true rfl, Nat.le_of_ble_eq_true rfl⟩ dX8_whom_45 (fun r45 M45 h45 => ?_)
              obtain ⟨hF, h45⟩ := h45
              have K1 := K.fr hF (by intro a ha; rw [cF_in] at ha; unfold okK; omega)
              refine r_istore dX8_whom_48 (by decide) rfl ?_
              refine r_iload_n dX8_whom_50 rfl ?_
              refine r_iconst (v := 1) dX8_whom_51 (by decide) ?_
              refine r_icmp_ne 60 dX8_whom_52 (by decide) (fun c52 => ?_) (fun c52 => ?_)
              · skip
                refine r_aload_n dX8_whom_60 rfl ?_
                refine r_iload_n dX8_whom_61 rfl ?_
                refine r_iload_n dX8_whom_62 rfl ?_
                refine r_iload dX8_whom_63 rfl ?_
                refine r_cV3i cvX8_213 (kX8_leftBy g M45 σ δ K1 h m r45 mm em hmm) ((hs.fr hF).lt (by decide)) ((hs.fr hF).T 0 rfl) ⟨Nat.le_of_ble_eq_true rfl, Nat.le_of_ble_eq_true rfl⟩ (Nat.le_of_ble_eq_true rfl) ⟨Nat.le_of_ble_eq_true rfl, Nat.le_of_ble_eq_true rfl⟩ dX8_whom_65 (fun r65 M65 h65 => ?_)
                obtain ⟨hF2, h65⟩ := h65
                have hF3 := hF.tr hF2
                exact r_iret dX8_whom_68 (by first | exact ⟨_, rfl, hF3, by rw [whmR, if_pos (one_of h1 c4), if_pos (by grind), if_neg c36, if_pos (by grind), hb2, h65, h45]⟩ | exact ⟨_, rfl, hF, by rw [whmR, if_pos (one_of h1 c4), if_pos (by grind), if_neg c36, if_neg (by grind), h45]⟩)
              · skip
                refine r_iload dX8_whom_55 rfl ?_
                refine r_goto 68 dX8_whom_57 (by decide) ?_
                exact r_iret dX8_whom_68 (by first | exact ⟨_, rfl, hF3, by rw [whmR, if_pos (one_of h1 c4), if_pos (by grind), if_neg c36, if_pos (by grind), hb2, h65, h45]⟩ | exact ⟨_, rfl, hF, by rw [whmR, if_pos (one_of h1 c4), if_pos (by grind), if_neg c36, if_neg (by grind), h45]⟩)
            · skip
              rw [V.1, nI_zero w.1] at c36
              refine r_ldc (v := -100103) dX8_whom_39 tw512 ?_
              exact r_iret dX8_whom_41 ⟨_, rfl, Fr.rf _ _ _, by rw [whmR, if_pos (one_of h1 c4), if_pos (by grind), if_pos c36]⟩
          · skip
            refine r_ldc (v := -100102) dX8_whom_29 tw511 ?_
            exact r_iret dX8_whom_31 ⟨_, rfl, Fr.rf _ _ _, by rw [whmR, if_pos (one_of h1 c4), if_neg (by grind)]⟩
  · skip
    refine r_ldc (v := -100101) dX8_whom_7 tw510 ?_
    exact r_iret dX8_whom_9 ⟨_, rfl, Fr.rf _ _ _, by rw [whmR, if_neg (zero_of h1 c4)]⟩
def rmX8_months : Room := { frames := 3, cells := 0, slots := 0, locals := 75 }
set_option maxHeartbeats 4000000 in
set_option maxRecDepth 100000 in
theorem lp_mosI (g : Gx) (x : Cx) (M : Mm) (σ : Ab) (δ : Dy) (K : CA σ δ M) (nn sd z : Int32) (s0 tk0 vm : Int32) (ps0 lo0 : Rw) (hlo0 : ∀ h, h < 8 → 0 ≤ lo0 h) (OUT : ∀ M3 : Mm, Fr (cF 25) [] M M3 → CD 25 M3 σ (yq δ) (yd δ) (lapF lo0) (passF σ (yq δ) (yd δ) lo0 (fun t => drT (sdF s0 (t + 1)) < yt δ t) ps0 (zN σ)).2 → (∀ t, t < zN σ → mI M3 31 t = yt δ t) → Vj x g yX8_months cX8_months 8 (Option.some FieldType.int) rmX8_months (Qm x g rmX8_months.cells rmX8_months.slots (pI fun r M' => Fr (cF 25) [] M M' ∧ r = mosR σ δ nn sd z)) 0 0 M3 57 [(0, some (.ref (g.1 + 0))), (1, some (.int nn)), (2, some (.int sd)), (3, some (.int z)), (4, some (.int (sdF s0 (zN σ)))), (5, some (.int (tk0 + (passF σ (yq δ) (yd δ) lo0 (fun t => drT (sdF s0 (t + 1)) < yt δ t) ps0 (zN σ)).1))), (6, some (.int (vm + Int32.ofInt 1)))] []) : ∀ (n : Nat) (i : Nat) (v dr tk : Int32) (M1 : Mm), i ≤ zN σ → zN σ - i < n → v = nI i → Fr (cF 25) [] M M1 → CD 25 M1 σ (yq δ) (yd δ) lo0 (passF σ (yq δ) (yd δ) lo0 (fun t => drT (sdF s0 (t + 1)) < yt δ t) ps0 i).2 → (∀ t, t < zN σ → mI M1 31 t = yt δ t) → dr = sdF s0 i → tk = tk0 + (passF σ (yq δ) (yd δ) lo0 (fun t => drT (sdF s0 (t + 1)) < yt δ t) ps0 i).1 → Vj x g yX8_months cX8_months 8 (Option.some FieldType.int) rmX8_months (Qm x g rmX8_months.cells rmX8_months.slots (pI fun r M' => Fr (cF 25) [] M M' ∧ r = mosR σ δ nn sd z)) 0 0 M1 66 [(0, some (.ref (g.1 + 0))), (1, some (.int nn)), (2, some (.int sd)), (3, some (.int z)), (4, some (.int dr)), (5, some (.int tk)), (6, some (.int vm)), (7, some (.int v))] [] := by
  intro n
  induction n with
  | zero => intro i v dr tk M1 hiN hn hv hF D1 hte ed et; omega
  | succ n ih =>
    intro i v dr tk M1 hiN hn hv hF D1 hte ed et
    obtain ⟨hs, w, dw, V, D, D2, D3, D4, D5, D6⟩ := id K
    have hs1 := hs.fr hF
    have V1 := V.fr hs w hF (by intro a ha; rw [cF_in] at ha; omega)
    subst hv
    have hv : nI i = nI i := rfl
    refine r_iload dX8_months_66 rfl ?_
    refine r_aload_n dX8_months_68 rfl ?_
    refine r_getI flX8_62_8 rfl (hs1.lt (by decide)) (hs1.T 0 rfl) dX8_months_69 ?_
    refine r_icmp_ge 125 dX8_months_72 (by decide) (fun c72 => ?_) (fun c72 => ?_)
    · skip
      have e0 := lp_ge (n := zN σ) hv V1.1 c72 hiN (by have := w.1; omega)
      subst e0
      refine r_aload_n dX8_months_125 rfl ?_
      refine r_getR flX8_46_8 rfl (hs1.lt (by decide)) (hs1.T 0 rfl) (hs1.R 0 7 rfl) dX8_months_126 ?_
      refine r_cV0v cvX8_241 (kX1_lapseLocks g M1 25 (Or.inr (Or.inr rfl)) hs1 lo0 D1.2.1 hlo0) (hs1.lt (by decide)) (hs1.T 25 rfl) ⟨Nat.le_of_ble_eq_true rfl, Nat.le_of_ble_eq_true rfl⟩ (Nat.le_of_ble_eq_true rfl) ⟨Nat.le_of_ble_eq_true rfl, Nat.le_of_ble_eq_true rfl⟩ dX8_months_129 (fun M129 h129 => ?_)
      obtain ⟨hF2, e2⟩ := h129
      refine r_iinc dX8_months_132 rfl rfl rfl ?_
      refine r_goto 57 dX8_months_135 (by decide) ?_
      subst ed
      subst et
      exact r_lv (lvSc rfl (lvSc rfl (lvSc rfl (lvSc rfl (lvSc rfl (lvSc rfl (lvSc rfl lvS0))))))) (OUT _ (hF.tr (hF2.mono (by intro a ha; simp at ha; rw [cF_in]; omega) (by simp))) (D1.fr3 hF2 e2) (fun t ht => by rw [hF2.2.1 31 (by decide)]; exact hte t ht))
    · skip
      have hi : i < zN σ := lp_lt (n := zN σ) hv V1.1 c72 hiN (by have := w.1; omega)
      have h8 : i < 8 := Nat.lt_of_lt_of_le hi w.1
      refine r_iload dX8_months_75 rfl ?_
      refine r_cS1i csX8_232 (kX8_nextSeed g M1 dr) hs1.pos ⟨Nat.le_of_ble_eq_true rfl, Nat.le_of_ble_eq_true rfl⟩ (Nat.le_of_ble_eq_true rfl) ⟨Nat.le_of_ble_eq_true rfl, Nat.le_of_ble_eq_true rfl⟩ dX8_months_77 (fun r77 M77 h77 => ?_)
      obtain ⟨e77, h77⟩ := h77
      replace e77 := e77.symm
      subst e77
      have eds : r77 = sdF s0 (i + 1) := by rw [h77, ed]; rfl
      refine r_istore dX8_months_80 (by decide) rfl ?_
      refine r_iload dX8_months_82 rfl ?_
      refine r_iload dX8_months_84 rfl ?_
      refine r_cS1i csX8_235 (kX8_drawOfTen g M1 r77) hs1.pos ⟨Nat.le_of_ble_eq_true rfl, Nat.le_of_ble_eq_true rfl⟩ (Nat.le_of_ble_eq_true rfl) ⟨Nat.le_of_ble_eq_true rfl, Nat.le_of_ble_eq_true rfl⟩ dX8_months_86 (fun r86 M86 h86 => ?_)
      obtain ⟨e86, h86⟩ := h86
      replace e86 := e86.symm
      subst e86
      have edr : r86 = drT (sdF s0 (i + 1)) := by rw [h86, eds]; rfl
      refine r_aload_n dX8_months_89 rfl ?_
      refine r_getR flX8_46_8 rfl (hs1.lt (by decide)) (hs1.T 0 rfl) (hs1.R 0 7 rfl) dX8_months_90 ?_
      refine r_getR flX8_130_1 rfl (hs1.lt (by decide)) (hs1.T 25 rfl) (hs1.R 25 5 rfl) dX8_months_93 ?_
      refine r_iload dX8_months_96 rfl ?_
      refine r_ial (hs1.T 31 rfl) (hs1.lt (by decide)) (ix_of hv h8 (by decide)) dX8_months_98 ?_
      refine r_icmp_ge 115 dX8_months_99 (by decide) (fun c99 => ?_) (fun c99 => ?_)
      · skip
        rw [edr, hte i hi] at c99
        refine r_iconst (v := 0) dX8_months_115 (by decide) ?_
        refine r_iadd dX8_months_116 ?_
        refine r_istore dX8_months_117 (by decide) rfl ?_
        refine r_iinc dX8_months_119 rfl rfl rfl ?_
        refine r_goto 66 dX8_months_122 (by decide) ?_
        first
          | exact r_lv (lvSc rfl (lvSc rfl (lvSc rfl (lvSc rfl (lvSc rfl (lvSc rfl (lvSc rfl (lvSc rfl lvS0)))))))) (ih (i + 1) _ _ _ _ (by omega) (by omega) (nI_inc rfl) (hF.tr (hF2.mono (by intro a ha; simp at ha; rw [cF_in]; omega) (by simp))) (by rw [passF_s1 c99]; exact D1.fr1 hF2 e3) (fun t ht => by rw [hF2.2.1 31 (by decide)]; exact hte t ht) eds (by rw [passF_s1 c99, et, e2]; grind))
          | exact r_lv (lvSc rfl (lvSc rfl (lvSc rfl (lvSc rfl (lvSc rfl (lvSc rfl (lvSc rfl (lvSc rfl lvS0)))))))) (ih (i + 1) _ _ _ _ (by omega) (by omega) (nI_inc rfl) hF (by rw [passF_s0 (fun q => absurd q (Int32.not_lt.mpr c99))]; exact D1) hte eds (by rw [passF_s0 (fun q => absurd q (Int32.not_lt.mpr c99)), et]; exact Int32.add_zero _))
      · skip
        rw [edr, hte i hi] at c99
        have c99 : drT (sdF s0 (i + 1)) < yt δ i := Int32.not_le.mp c99
        refine r_aload_n dX8_months_102 rfl ?_
        refine r_aload_n dX8_months_103 rfl ?_
        refine r_getR flX8_46_8 rfl (hs1.lt (by decide)) (hs1.T 0 rfl) (hs1.R 0 7 rfl) dX8_months_104 ?_
        refine r_iload dX8_months_107 rfl ?_
        refine r_cV2i cvX8_238 (kX8_visit g M1 25 (Or.inr (Or.inr rfl)) hs1 σ w V1 (yq δ) (yd δ) lo0 _ D1 i hi) (hs1.lt (by decide)) (hs1.T 0 rfl) ⟨Nat.le_of_ble_eq_true rfl, Nat.le_of_ble_eq_true rfl⟩ (Nat.le_of_ble_eq_true rfl) ⟨Nat.le_of_ble_eq_true rfl, Nat.le_of_ble_eq_true rfl⟩ dX8_months_109 (fun r109 M109 h109 => ?_)
        obtain ⟨hF2, e2, e3⟩ := h109
        refine r_goto 116 dX8_months_112 (by decide) ?_
        refine r_iadd dX8_months_116 ?_
        refine r_istore dX8_months_117 (by decide) rfl ?_
        refine r_iinc dX8_months_119 rfl rfl rfl ?_
        refine r_goto 66 dX8_months_122 (by decide) ?_
        first
          | exact r_lv (lvSc rfl (lvSc rfl (lvSc rfl (lvSc rfl (lvSc rfl (lvSc rfl (lvSc rfl (lvSc rfl lvS0)))))))) (ih (i + 1) _ _ _ _ (by omega) (by omega) (nI_inc rfl) (hF.tr (hF2.mono (by intro a ha; simp at ha; rw [cF_in]; omega) (by simp))) (by rw [passF_s1 c99]; exact D1.fr1 hF2 e3) (fun t ht => by rw [hF2.2.1 31 (by decide)]; exact hte t ht) eds (by rw [passF_s1 c99, et, e2]; grind))
          | exact r_lv (lvSc rfl (lvSc rfl (lvSc rfl (lvSc rfl (lvSc rfl (lvSc rfl (lvSc rfl (lvSc rfl lvS0)))))))) (ih (i + 1) _ _ _ _ (by omega) (by omega) (nI_inc rfl) hF (by rw [passF_s0 (fun q => absurd q (Int32.not_lt.mpr c99))]; exact D1) hte eds (by rw [passF_s0 (fun q => absurd q (Int32.not_lt.mpr c99)), et]; exact Int32.add_zero _))
set_option maxHeartbeats 4000000 in
set_option maxRecDepth 100000 in
theorem lp_mosO (g : Gx) (x : Cx) (M : Mm) (σ : Ab) (δ : Dy) (K : CA σ δ M) (nn sd z : Int32) (N2 : Nat) (en : nn = nI N2) (hN2 : N2 ≤ 60) (hR : mosR σ δ nn sd z = if z = 0 then homF σ (msF σ δ sd N2).2.2.1 else if z = 1 then (msF σ δ sd N2).2.1 else (msF σ δ sd N2).1) : ∀ (n : Nat) (i : Nat) (v dr tk : Int32) (M1 : Mm) (ps0 lo0 : Rw), i ≤ N2 → N2 - i < n → v = nI i → Fr (cF 25) [] M M1 → CD 25 M1 σ (yq δ) (yd δ) lo0 ps0 → (∀ h, h < 8 → 0 ≤ lo0 h) → (∀ t, t < zN σ → mI M1 31 t = yt δ t) → (dr, tk, ps0, lo0) = msF σ δ sd i → Vj x g yX8_months cX8_months 8 (Option.some FieldType.int) rmX8_months (Qm x g rmX8_months.cells rmX8_months.slots (pI fun r M' => Fr (cF 25) [] M M' ∧ r = mosR σ δ nn sd z)) 0 0 M1 57 [(0, some (.ref (g.1 + 0))), (1, some (.int nn)), (2, some (.int sd)), (3, some (.int z)), (4, some (.int dr)), (5, some (.int tk)), (6, some (.int v))] [] := by
  intro n
  induction n with
  | zero => intro i v dr tk M1 ps0 lo0 hiN hn hv hF D1 hlo0 hte eQ; omega
  | succ n ih =>
    intro i v dr tk M1 ps0 lo0 hiN hn hv hF D1 hlo0 hte eQ
    obtain ⟨hs, w, dw, V, D, D2, D3, D4, D5, D6⟩ := id K
    have hs1 := hs.fr hF
    have V1 := V.fr hs w hF (by intro a ha; rw [cF_in] at ha; omega)
    refine r_iload dX8_months_57 rfl ?_
    refine r_iload_n dX8_months_59 rfl ?_
    refine r_icmp_ge 138 dX8_months_60 (by decide) (fun c60 => ?_) (fun c60 => ?_)
    · skip
      have e0 := lp_ge (n := N2) hv en c60 hiN (by omega)
      subst e0
      refine r_iload_n dX8_months_138 rfl ?_
      by_cases w0 : z = 0
      · skip
        subst w0
        refine r_lookup 164 (off := 25) dX8_months_139 (by decide) (by decide) (by decide) ?_
        refine r_aload_n dX8_months_164 rfl ?_
        refine r_aload_n dX8_months_165 rfl ?_
        refine r_getR flX8_46_8 rfl (hs1.lt (by decide)) (hs1.T 0 rfl) (hs1.R 0 7 rfl) dX8_months_166 ?_
        refine r_cV1i cvX8_244 (kX8_worthAtHome g M1 25 (Or.inr (Or.inr rfl)) hs1 σ w V1 ps0 D1.1) (hs1.lt (by decide)) (hs1.T 0 rfl) ⟨Nat.le_of_ble_eq_true rfl, Nat.le_of_ble_eq_true rfl⟩ (Nat.le_of_ble_eq_true rfl) ⟨Nat.le_of_ble_eq_true rfl, Nat.le_of_ble_eq_true rfl⟩ dX8_months_169 (fun r169 M169 h169 => ?_)
        obtain ⟨e169, h169⟩ := h169
        replace e169 := e169.symm
        subst e169
        exact r_iret dX8_months_172 ⟨_, rfl, hF, by rw [hR, ← eQ, h169]; rfl⟩
      · skip
        by_cases w1 : z = 1
        · skip
          subst w1
          refine r_lookup 173 (off := 34) dX8_months_139 (by decide) (by decide) (by decide) ?_
          refine r_iload dX8_months_173 rfl ?_
          exact r_iret dX8_months_175 ⟨_, rfl, hF, by rw [hR, ← eQ]; rfl⟩
        · skip
          refine r_lookup 176 (off := 37) dX8_months_139 (by decide) (by show Op.lookupswitch.offset [(0, 25), (1, 34)] 37 _ = _; rw [lv_osw w0 (by decide), lv_osw w1 (by decide)]; rfl) (by decide) ?_
          refine r_iload dX8_months_176 rfl ?_
          exact r_iret dX8_months_178 ⟨_, rfl, hF, by rw [hR, ← eQ, if_neg w0, if_neg w1]⟩
    · skip
      have hi : i < N2 := lp_lt (n := N2) hv en c60 hiN (by omega)
      refine r_iconst (v := 0) dX8_months_63 (by decide) ?_
      refine r_istore dX8_months_64 (by decide) rfl ?_
      exact r_lv (lvSc rfl (lvSc rfl (lvSc rfl (lvSc rfl (lvSc rfl (lvSc rfl (lvSc rfl (lvSc rfl lvS0)))))))) (lp_mosI g x M σ δ K nn sd z dr tk v ps0 lo0 hlo0 (fun M3 f3 d3 t3 => ih (i + 1) _ _ _ M3 _ _ (by omega) (by omega) (nI_inc hv) f3 d3 (lapF_0 hlo0) t3 (by rw [msF, ← eQ])) (zN σ + 1) 0 0 _ _ M1 (by omega) (by omega) rfl hF D1 hte rfl (Int32.add_zero _).symm)
set_option maxHeartbeats 4000000 in
set_option maxRecDepth 100000 in
theorem kX8_months (g : Gx) (M : Mm) (σ : Ab) (δ : Dy) (K : CA σ δ M) (nn sd z : Int32) : Ct g yX8_months cX8_months 8 (Option.some FieldType.int) rmX8_months [.ref (g.1 + 0), .int nn, .int sd, .int z] M (pI fun r M' => Fr (cF 25) [] M M' ∧ r = mosR σ δ nn sd z) := by
  obtain ⟨hs, w, dw, V, D, D2, D3, D4, D5, D6⟩ := id K
  refine Ct.of rfl (Nat.le_of_ble_eq_true rfl) (fun x => ?_)
  refine r_iload_n dX8_months_0 rfl ?_
  refine r_iconst (v := 1) dX8_months_1 (by decide) ?_
  refine r_icmp_lt 24 dX8_months_2 (by decide) (fun c2 => ?_) (fun c2 => ?_)
  · skip
    refine r_bipush (v := -102) dX8_months_24 (by decide) ?_
    exact r_iret dX8_months_26 ⟨_, rfl, Fr.rf _ _ _, by rw [mosR, if_neg (by grind)]⟩
  · skip
    refine r_iload_n dX8_months_5 rfl ?_
    refine r_bipush (v := 60) dX8_months_6 (by decide) ?_
    refine r_icmp_gt 24 dX8_months_8 (by decide) (fun c8 => ?_) (fun c8 => ?_)
    · skip
      refine r_bipush (v := -102) dX8_months_24 (by decide) ?_
      exact r_iret dX8_months_26 ⟨_, rfl, Fr.rf _ _ _, by rw [mosR, if_neg (by grind)]⟩
    · skip
      refine r_iload_n dX8_months_11 rfl ?_
      refine r_if_lt 24 dX8_months_12 (by decide) (fun c12 => ?_) (fun c12 => ?_)
      · skip
        refine r_bipush (v := -102) dX8_months_24 (by decide) ?_
        exact r_iret dX8_months_26 ⟨_, rfl, Fr.rf _ _ _, by rw [mosR, if_neg (by grind)]⟩
      · skip
        refine r_iload_n dX8_months_15 rfl ?_
        refine r_if_lt 24 dX8_months_16 (by decide) (fun c16 => ?_) (fun c16 => ?_)
        · skip
          refine r_bipush (v := -102) dX8_months_24 (by decide) ?_
          exact r_iret dX8_months_26 ⟨_, rfl, Fr.rf _ _ _, by rw [mosR, if_neg (by grind)]⟩
        · skip
          refine r_iload_n dX8_months_19 rfl ?_
          refine r_iconst (v := 2) dX8_months_20 (by decide) ?_
          refine r_icmp_le 27 dX8_months_21 (by decide) (fun c21 => ?_) (fun c21 => ?_)
          · skip
            refine r_aload_n dX8_months_27 rfl ?_
            refine r_getI flX8_62_8 rfl (hs.lt (by decide)) (hs.T 0 rfl) dX8_months_28 ?_
            refine r_if_ne 37 dX8_months_31 (by decide) (fun c31 => ?_) (fun c31 => ?_)
            · skip
              rw [V.1, nI_zero w.1] at c31
              obtain ⟨N2, hN2, en⟩ := nI_rng (v := nn) (n := 60) (by grind) (by show nn ≤ 60; grind) (by decide)
              refine r_aload_n dX8_months_37 rfl ?_
              refine r_getR flX8_46_8 rfl (hs.lt (by decide)) (hs.T 0 rfl) (hs.R 0 7 rfl) dX8_months_38 ?_
              refine r_aload_n dX8_months_41 rfl ?_
              refine r_getR flX8_39_8 rfl (hs.lt (by decide)) (hs.T 0 rfl) (hs.R 0 5 rfl) dX8_months_42 ?_
              refine r_cV1v cvX8_188 (kX1_takeOver g M 25 11 (Or.inr (Or.inr rfl)) (Or.inl rfl) (by decide) hs D6) (hs.lt (by decide)) (hs.T 25 rfl) ⟨Nat.le_of_ble_eq_true rfl, Nat.le_of_ble_eq_true rfl⟩ (Nat.le_of_ble_eq_true rfl) ⟨Nat.le_of_ble_eq_true rfl, Nat.le_of_ble_eq_true rfl⟩ dX8_months_45 (fun M45 h45 => ?_)
              obtain ⟨hF, hcp, h6, h7⟩ := h45
              have CC2 := CC.copy w K.2.2.2.2 hcp h6 h7
              refine r_iload_n dX8_months_48 rfl ?_
              refine r_istore dX8_months_49 (by decide) rfl ?_
              refine r_iconst (v := 0) dX8_months_51 (by decide) ?_
              refine r_istore dX8_months_52 (by decide) rfl ?_
              refine r_iconst (v := 0) dX8_months_54 (by decide) ?_
              refine r_istore dX8_months_55 (by decide) rfl ?_
              exact r_lv (lvSc rfl (lvSc rfl (lvSc rfl (lvSc rfl (lvSc rfl (lvSc rfl (lvSc rfl lvS0))))))) (lp_mosO g x M σ δ K nn sd z N2 en hN2 (by rw [mosR, if_pos (by grind), if_neg c31, show nn.toNatClampNeg = N2 by rw [en]; exact nI_clamp (by omega)]) (N2 + 1) 0 0 _ _ _ (yp δ) (yl δ) (by omega) (by omega) rfl hF CC2.1 dw.1 CC2.2.2.1 rfl)
            · skip
              rw [V.1, nI_zero w.1] at c31
              refine r_bipush (v := -103) dX8_months_34 (by decide) ?_
              exact r_iret dX8_months_36 ⟨_, rfl, Fr.rf _ _ _, by rw [mosR, if_pos (by grind), if_pos c31]⟩
          · skip
            refine r_bipush (v := -102) dX8_months_24 (by decide) ?_
            exact r_iret dX8_months_26 ⟨_, rfl, Fr.rf _ _ _, by rw [mosR, if_neg (by grind)]⟩
