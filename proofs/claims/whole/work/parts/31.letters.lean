theorem byE (v : Int64) : ∀ k, k < 8 → (v.toUInt64 >>> ((8 * nI k).toInt64.toUInt64 &&& Int64.toUInt64 63)).toInt64.toInt32 &&& 255 = nI (byN v k) := by
  intro k hk
  have h1 : ((8 * nI k).toInt64.toUInt64 &&& Int64.toUInt64 63).toNat = 8 * k := by
    rcases (show k = 0 ∨ k = 1 ∨ k = 2 ∨ k = 3 ∨ k = 4 ∨ k = 5 ∨ k = 6 ∨ k = 7 by omega) with e | e | e | e | e | e | e | e <;> subst e <;> decide
  apply Int32.toBitVec_inj.mp
  apply BitVec.eq_of_toNat_eq
  have h2 : (v.toUInt64 >>> ((8 * nI k).toInt64.toUInt64 &&& Int64.toUInt64 63)).toNat = v.toUInt64.toNat / 256 ^ k := by
    rw [UInt64.toNat_shiftRight, h1, Nat.mod_eq_of_lt (by omega), Nat.shiftRight_eq_div_pow, Nat.pow_mul]
  have h3 : ((v.toUInt64 >>> ((8 * nI k).toInt64.toUInt64 &&& Int64.toUInt64 63)).toInt64.toInt32).toBitVec.toNat = (v.toUInt64.toNat / 256 ^ k) % 2 ^ 32 := by
    rw [← h2]
    generalize (v.toUInt64 >>> ((8 * nI k).toInt64.toUInt64 &&& Int64.toUInt64 63)) = u
    rw [Int64.toBitVec_toInt32, BitVec.signExtend_eq_setWidth_of_le _ (by decide), BitVec.toNat_setWidth]
    rfl
  rw [Int32.toBitVec_and, BitVec.toNat_and, h3]
  show (v.toUInt64.toNat / 256 ^ k % 2 ^ 32) &&& 255 = (Int32.ofNat (byN v k)).toBitVec.toNat
  rw [show (255 : Nat) = 2 ^ 8 - 1 by decide, Nat.and_two_pow_sub_one_eq_mod, Nat.mod_mod_of_dvd _ (by decide)]
  show v.toUInt64.toNat / 256 ^ k % 2 ^ 8 = (BitVec.ofNat 32 (byN v k)).toNat
  rw [BitVec.toNat_ofNat, Nat.mod_eq_of_lt (Nat.lt_of_lt_of_le (byN_lt v k) (by decide))]
  rfl
def rmX8_lettersTold : Room := { frames := 1, cells := 0, slots := 0, locals := 22 }
set_option maxHeartbeats 4000000 in
set_option maxRecDepth 100000 in
theorem lp_told (g : Gx) (x : Cx) (M : Mm) (hs : St M) (z : Int64) : ∀ (n : Nat) (i : Nat) (v b : Int32), i ≤ 8 → 8 - i < n → v = nI i → b = nI (cnB z i) → (∀ k, k < i → okB z k) → Vj x g yX8_lettersTold cX8_lettersTold 5 (Option.some FieldType.int) rmX8_lettersTold (Qm x g rmX8_lettersTold.cells rmX8_lettersTold.slots (pI fun r M' => M' = M ∧ (gdB z → r = nI (cnB z 8)) ∧ (¬ gdB z → r = -1))) 0 0 M 4 [(0, some (.long z)), (2, some (.int b)), (3, some (.int v))] [] := by
  intro n
  induction n with
  | zero => intro i v b hi8 hn hv hb hA; omega
  | succ n ih =>
    intro i v b hi8 hn hv hb hA
    subst hv
    have hv : nI i = nI i := rfl
    refine r_iload_n dX8_lettersTold_4 rfl ?_
    refine r_bipush (v := 8) dX8_lettersTold_5 (by decide) ?_
    refine r_icmp_ge 55 dX8_lettersTold_7 (by decide) (fun c7 => ?_) (fun c7 => ?_)
    · skip
      have e0 := lp_ge (n := 8) hv rfl c7 hi8 (by decide)
      subst e0
      refine r_iload_n dX8_lettersTold_55 rfl ?_
      exact r_iret dX8_lettersTold_56 ⟨_, rfl, rfl, fun _ => hb, fun q => absurd hA q⟩
    · skip
      have hi : i < 8 := lp_lt (n := 8) hv rfl c7 hi8 (by decide)
      have hcl := cnB_le z i
      have hbl := byN_lt z i
      refine r_lload_n dX8_lettersTold_10 rfl ?_
      refine r_iload_n dX8_lettersTold_11 rfl ?_
      refine r_cS2i csX8_95 (kX8_byteOf g M z (nI i)) hs.pos ⟨Nat.le_of_ble_eq_true rfl, Nat.le_of_ble_eq_true rfl⟩ (Nat.le_of_ble_eq_true rfl) ⟨Nat.le_of_ble_eq_true rfl, Nat.le_of_ble_eq_true rfl⟩ dX8_lettersTold_12 (fun r12 M12 h12 => ?_)
      obtain ⟨e12, h12⟩ := h12
      replace e12 := e12.symm
      subst e12
      rw [byE z i hi] at h12
      refine r_istore dX8_lettersTold_15 (by decide) rfl ?_
      refine r_iload dX8_lettersTold_17 rfl ?_
      refine r_bipush (v := 126) dX8_lettersTold_19 (by decide) ?_
      refine r_icmp_gt 34 dX8_lettersTold_21 (by decide) (fun c21 => ?_) (fun c21 => ?_)
      · skip
        have hno : ¬ okB z i := fun q => by rw [h12] at c21; have := (nI_ltI (a := 126) (by decide) (by omega)).mp c21; have := q.1; omega
        refine r_iconst (v := -1) dX8_lettersTold_34 (by decide) ?_
        exact r_iret dX8_lettersTold_35 ⟨_, rfl, rfl, fun q => absurd (q i hi) hno, fun _ => rfl⟩
      · skip
        have h126 : byN z i ≤ 126 := by rcases Nat.lt_or_ge 126 (byN z i) with q | q; exfalso; apply c21; rw [h12]; exact nI_lt (a := 126) q (by omega); exact q
        refine r_iload dX8_lettersTold_24 rfl ?_
        refine r_if_eq 36 dX8_lettersTold_26 (by decide) (fun c26 => ?_) (fun c26 => ?_)
        · skip
          have hz : byN z i = 0 := by rw [h12] at c26; exact (nI_eq (b := 0) (by omega) (by decide)).mp c26
          refine r_iload_n dX8_lettersTold_36 rfl ?_
          refine r_iload dX8_lettersTold_37 rfl ?_
          refine r_if_eq 46 dX8_lettersTold_39 (by decide) (fun c39 => ?_) (fun c39 => ?_)
          · skip
            refine r_iconst (v := 0) dX8_lettersTold_46 (by decide) ?_
            refine r_iadd dX8_lettersTold_47 ?_
            refine r_istore_n dX8_lettersTold_48 (by decide) rfl ?_
            refine r_iinc dX8_lettersTold_49 rfl rfl rfl ?_
            refine r_goto 4 dX8_lettersTold_52 (by decide) ?_
            exact r_lv (lvSc rfl (lvSc rfl (lvSc rfl lvS0))) (ih (i + 1) _ _ (by omega) (by omega) (nI_inc rfl) (by rw [cnB, if_pos hz, hb]; exact Int32.add_zero _) (fun k hk => by rcases Nat.lt_or_ge k i with q | q; exact hA k q; rw [show k = i by omega]; exact ⟨h126, Or.inl hz⟩))
          · skip
            refine r_iconst (v := 1) dX8_lettersTold_42 (by decide) ?_
            refine r_goto 47 dX8_lettersTold_43 (by decide) ?_
            refine r_iadd dX8_lettersTold_47 ?_
            refine r_istore_n dX8_lettersTold_48 (by decide) rfl ?_
            refine r_iinc dX8_lettersTold_49 rfl rfl rfl ?_
            refine r_goto 4 dX8_lettersTold_52 (by decide) ?_
            exact absurd c26 c39
        · skip
          have hz : ¬ byN z i = 0 := fun q => c26 (by rw [h12, q]; rfl)
          refine r_iload_n dX8_lettersTold_29 rfl ?_
          refine r_iload_n dX8_lettersTold_30 rfl ?_
          refine r_icmp_ge 36 dX8_lettersTold_31 (by decide) (fun c31 => ?_) (fun c31 => ?_)
          · skip
            have hci : cnB z i = i := by rw [hb] at c31; have := (nI_leI (by omega) (by omega)).mp c31; omega
            refine r_iload_n dX8_lettersTold_36 rfl ?_
            refine r_iload dX8_lettersTold_37 rfl ?_
            refine r_if_eq 46 dX8_lettersTold_39 (by decide) (fun c39 => ?_) (fun c39 => ?_)
            · skip
              refine r_iconst (v := 0) dX8_lettersTold_46 (by decide) ?_
              refine r_iadd dX8_lettersTold_47 ?_
              refine r_istore_n dX8_lettersTold_48 (by decide) rfl ?_
              refine r_iinc dX8_lettersTold_49 rfl rfl rfl ?_
              refine r_goto 4 dX8_lettersTold_52 (by decide) ?_
              exact absurd c39 c26
            · skip
              refine r_iconst (v := 1) dX8_lettersTold_42 (by decide) ?_
              refine r_goto 47 dX8_lettersTold_43 (by decide) ?_
              refine r_iadd dX8_lettersTold_47 ?_
              refine r_istore_n dX8_lettersTold_48 (by decide) rfl ?_
              refine r_iinc dX8_lettersTold_49 rfl rfl rfl ?_
              refine r_goto 4 dX8_lettersTold_52 (by decide) ?_
              exact r_lv (lvSc rfl (lvSc rfl (lvSc rfl lvS0))) (ih (i + 1) _ _ (by omega) (by omega) (nI_inc rfl) (by rw [cnB, if_neg hz, hb]; exact nI_1 _) (fun k hk => by rcases Nat.lt_or_ge k i with q | q; exact hA k q; rw [show k = i by omega]; exact ⟨h126, Or.inr hci⟩))
          · skip
            have hno : ¬ okB z i := fun q => by have := q.2.resolve_left hz; apply c31; rw [hb, this]; exact Int32.le_refl _
            refine r_iconst (v := -1) dX8_lettersTold_34 (by decide) ?_
            exact r_iret dX8_lettersTold_35 ⟨_, rfl, rfl, fun q => absurd (q i hi) hno, fun _ => rfl⟩
set_option maxHeartbeats 4000000 in
set_option maxRecDepth 100000 in
theorem kX8_lettersTold (g : Gx) (M : Mm) (hs : St M) (z : Int64) : Ct g yX8_lettersTold cX8_lettersTold 5 (Option.some FieldType.int) rmX8_lettersTold [.long z] M (pI fun r M' => M' = M ∧ (gdB z → r = nI (cnB z 8)) ∧ (¬ gdB z → r = -1)) := by
  refine Ct.of rfl (Nat.le_of_ble_eq_true rfl) (fun x => ?_)
  refine r_iconst (v := 0) dX8_lettersTold_0 (by decide) ?_
  refine r_istore_n dX8_lettersTold_1 (by decide) rfl ?_
  refine r_iconst (v := 0) dX8_lettersTold_2 (by decide) ?_
  refine r_istore_n dX8_lettersTold_3 (by decide) rfl ?_
  exact r_lv (lvSc rfl (lvSc rfl (lvSc rfl lvS0))) (lp_told g x M hs z 9 0 0 0 (by omega) (by omega) rfl rfl (fun k hk => by omega))
def rmX8_letters : Room := { frames := 2, cells := 0, slots := 0, locals := 46 }
theorem let_bad {z : Int64} {pn : Nat} (h : ¬ gdB z) : letR z pn = -102 ∧ letN z pn = pn := ⟨by unfold letR; rw [if_neg h], by unfold letN; rw [if_neg (fun q => h q.1)]⟩
theorem let_full {z : Int64} {pn : Nat} (h : gdB z) (h2 : ¬ pn + cnB z 8 ≤ 40) : letR z pn = -104 ∧ letN z pn = pn := ⟨by unfold letR; rw [if_pos h, if_neg h2], by unfold letN; rw [if_neg (fun q => h2 q.2)]⟩
theorem let_ok {z : Int64} {pn : Nat} (h : gdB z) (h2 : pn + cnB z 8 ≤ 40) : letR z pn = nI (pn + cnB z 8) ∧ letN z pn = pn + cnB z 8 := ⟨by unfold letR; rw [if_pos h, if_pos h2], by unfold letN; rw [if_pos ⟨h, h2⟩]⟩
theorem letG_lt {z : Int64} {pn k : Nat} {pg : Rw} (h : k < pn) : letG z pn pg k = pg k := by unfold letG; rw [if_pos h]
set_option maxHeartbeats 4000000 in
set_option maxRecDepth 100000 in
theorem lp_let (g : Gx) (x : Cx) (M : Mm) (hs : St M) (z : Int64) (pg : Rw) (pn : Nat) (hpn : mI M 1 1 = nI pn) (h40 : pn ≤ 40) (hpg : ∀ k, k < pn → mI M 2 k = pg k) (td : Int32) (hg : gdB z) (hfit : pn + cnB z 8 ≤ 40) (htd : td = nI (cnB z 8)) : ∀ (n : Nat) (i : Nat) (v : Int32) (M1 : Mm), i ≤ cnB z 8 → cnB z 8 - i < n → v = nI i → Fr [1, 2] [] M M1 → mI M1 1 1 = nI (pn + i) → (∀ k, k < pn + i → mI M1 2 k = letG z pn pg k) → Vj x g yX8_letters cX8_letters 5 (Option.some FieldType.int) rmX8_letters (Qm x g rmX8_letters.cells rmX8_letters.slots (pI fun r M' => Fr [1, 2] [] M M' ∧ r = letR z pn ∧ mI M' 1 1 = nI (letN z pn) ∧ ∀ k, k < letN z pn → mI M' 2 k = letG z pn pg k)) 0 0 M1 33 [(0, some (.ref (g.1 + 0))), (1, some (.long z)), (3, some (.int td)), (4, some (.int v))] [] := by
  intro n
  induction n with
  | zero => intro i v M1 hi8 hn hv hF hsz hA; omega
  | succ n ih =>
    intro i v M1 hi8 hn hv hF hsz hA
    have hs1 := hs.fr hF
    subst hv
    have hv : nI i = nI i := rfl
    refine r_iload dX8_letters_33 rfl ?_
    refine r_iload_n dX8_letters_35 rfl ?_
    refine r_icmp_ge 79 dX8_letters_36 (by decide) (fun c36 => ?_) (fun c36 => ?_)
    · skip
      have e0 := lp_ge (n := cnB z 8) hv htd c36 hi8 (by have := cnB_le z 8; omega)
      subst e0
      refine r_aload_n dX8_letters_79 rfl ?_
      refine r_getR flX8_12_8 rfl (hs1.lt (by decide)) (hs1.T 0 rfl) (hs1.R 0 0 rfl) dX8_letters_80 ?_
      refine r_getI flX8_89_4 rfl (hs1.lt (by decide)) (hs1.T 1 rfl) dX8_letters_83 ?_
      exact r_iret dX8_letters_86 ⟨_, rfl, hF, by rw [hsz, (let_ok hg hfit).1], by rw [hsz, (let_ok hg hfit).2], fun k hk => by rw [(let_ok hg hfit).2] at hk; exact hA k hk⟩
    · skip
      have hi : i < cnB z 8 := lp_lt (n := cnB z 8) hv htd c36 hi8 (by have := cnB_le z 8; omega)
      have h8 : i < 8 := Nat.lt_of_lt_of_le hi (cnB_le z 8)
      refine r_aload_n dX8_letters_39 rfl ?_
      refine r_getR flX8_12_8 rfl (hs1.lt (by decide)) (hs1.T 0 rfl) (hs1.R 0 0 rfl) dX8_letters_40 ?_
      refine r_getR flX8_92_4 rfl (hs1.lt (by decide)) (hs1.T 1 rfl) (hs1.R 1 0 rfl) dX8_letters_43 ?_
      refine r_aload_n dX8_letters_46 rfl ?_
      refine r_getR flX8_12_8 rfl (hs1.lt (by decide)) (hs1.T 0 rfl) (hs1.R 0 0 rfl) dX8_letters_47 ?_
      refine r_getI flX8_89_4 rfl (hs1.lt (by decide)) (hs1.T 1 rfl) dX8_letters_50 ?_
      refine r_lload_n dX8_letters_53 rfl ?_
      refine r_iload dX8_letters_54 rfl ?_
      refine r_cS2i csX8_95 (kX8_byteOf g M1 z (nI i)) hs1.pos ⟨Nat.le_of_ble_eq_true rfl, Nat.le_of_ble_eq_true rfl⟩ (Nat.le_of_ble_eq_true rfl) ⟨Nat.le_of_ble_eq_true rfl, Nat.le_of_ble_eq_true rfl⟩ dX8_letters_56 (fun r56 M56 h56 => ?_)
      obtain ⟨e56, h56⟩ := h56
      replace e56 := e56.symm
      subst e56
      rw [byE z i h8] at h56
      refine r_ias (hs1.T 2 rfl) (hs1.lt (by decide)) (ix_of hsz (by omega) (by decide)) dX8_letters_59 ?_
      refine r_aload_n dX8_letters_60 rfl ?_
      refine r_getR flX8_12_8 rfl (hs1.lt (by decide)) (hs1.T 0 rfl) (hs1.R 0 0 rfl) dX8_letters_61 ?_
      refine r_dup dX8_letters_64 rfl ?_
      refine r_getI flX8_89_4 rfl (hs1.lt (by decide)) (hs1.T 1 rfl) dX8_letters_65 ?_
      refine r_iconst (v := 1) dX8_letters_68 (by decide) ?_
      refine r_iadd dX8_letters_69 ?_
      refine r_putI fpX8_89_4 rfl (hs1.lt (by decide)) (hs1.T 1 rfl) rfl rfl dX8_letters_70 ?_
      refine r_iinc dX8_letters_73 rfl rfl rfl ?_
      refine r_goto 33 dX8_letters_76 (by decide) ?_
      exact r_lv (lvSc rfl (lvSc rfl (lvSc rfl (lvSc rfl lvS0)))) (ih (i + 1) _ _ (by omega) (by omega) (nI_inc rfl) ((hF.sI (by simp)).sI (by simp)) (by rw [mI_sI, va_up_self, mI_sI_ne (by decide), hsz]; exact nI_1 _) (fun k hk => by
        rw [mI_sI_ne (by decide), mI_sI, va_up_if]
        by_cases e : k = pn + i
        · rw [if_pos e, e, h56]; unfold letG; rw [if_neg (by omega), show pn + i - pn = i by omega]
        · rw [if_neg e]; exact hA k (by omega)))
set_option maxHeartbeats 4000000 in
set_option maxRecDepth 100000 in
theorem kX8_letters (g : Gx) (M : Mm) (hs : St M) (z : Int64) (pg : Rw) (pn : Nat) (hpn : mI M 1 1 = nI pn) (h40 : pn ≤ 40) (hpg : ∀ k, k < pn → mI M 2 k = pg k) : Ct g yX8_letters cX8_letters 5 (Option.some FieldType.int) rmX8_letters [.ref (g.1 + 0), .long z] M (pI fun r M' => Fr [1, 2] [] M M' ∧ r = letR z pn ∧ mI M' 1 1 = nI (letN z pn) ∧ ∀ k, k < letN z pn → mI M' 2 k = letG z pn pg k) := by
  refine Ct.of rfl (Nat.le_of_ble_eq_true rfl) (fun x => ?_)
  refine r_lload_n dX8_letters_0 rfl ?_
  refine r_cS1i csX8_85 (kX8_lettersTold g M hs z) hs.pos ⟨Nat.le_of_ble_eq_true rfl, Nat.le_of_ble_eq_true rfl⟩ (Nat.le_of_ble_eq_true rfl) ⟨Nat.le_of_ble_eq_true rfl, Nat.le_of_ble_eq_true rfl⟩ dX8_letters_1 (fun r1 M1 h1 => ?_)
  obtain ⟨e1, h1⟩ := h1
  replace e1 := e1.symm
  subst e1
  have hc8 := cnB_le z 8
  refine r_istore_n dX8_letters_4 (by decide) rfl ?_
  refine r_iload_n dX8_letters_5 rfl ?_
  refine r_iconst (v := -1) dX8_letters_6 (by decide) ?_
  refine r_icmp_ne 13 dX8_letters_7 (by decide) (fun c7 => ?_) (fun c7 => ?_)
  · skip
    have hg : gdB z := Classical.byContradiction (fun q => c7 (h1.2 q))
    have htd := h1.1 hg
    refine r_aload_n dX8_letters_13 rfl ?_
    refine r_getR flX8_12_8 rfl (hs.lt (by decide)) (hs.T 0 rfl) (hs.R 0 0 rfl) dX8_letters_14 ?_
    refine r_getI flX8_89_4 rfl (hs.lt (by decide)) (hs.T 1 rfl) dX8_letters_17 ?_
    refine r_iload_n dX8_letters_20 rfl ?_
    refine r_iadd dX8_letters_21 ?_
    refine r_bipush (v := 40) dX8_letters_22 (by decide) ?_
    refine r_icmp_le 30 dX8_letters_24 (by decide) (fun c24 => ?_) (fun c24 => ?_)
    · skip
      have hfit : pn + cnB z 8 ≤ 40 := by rw [hpn, htd, nI_add] at c24; exact (nI_leI (b := 40) (by omega) (by decide)).mp c24
      refine r_iconst (v := 0) dX8_letters_30 (by decide) ?_
      refine r_istore dX8_letters_31 (by decide) rfl ?_
      exact r_lv (lvSc rfl (lvSc rfl (lvSc rfl (lvSc rfl lvS0)))) (lp_let g x M hs z pg pn hpn h40 hpg r1 hg hfit htd (cnB z 8 + 1) 0 0 M (by omega) (by omega) rfl (Fr.rf _ _ _) hpn (fun k hk => by rw [letG_lt (show k < pn from hk)]; exact hpg k hk))
    · skip
      have hfit : ¬ pn + cnB z 8 ≤ 40 := fun q => c24 (by rw [hpn, htd, nI_add]; exact nI_le (b := 40) q (by decide))
      refine r_bipush (v := -104) dX8_letters_27 (by decide) ?_
      exact r_iret dX8_letters_29 ⟨_, rfl, Fr.rf _ _ _, (let_full hg hfit).1.symm, by rw [(let_full hg hfit).2]; exact hpn, fun k hk => by rw [(let_full hg hfit).2] at hk; rw [letG_lt hk]; exact hpg k hk⟩
  · skip
    have hg : ¬ gdB z := fun q => by rw [h1.1 q] at c7; exact nI_ne_m1 (by omega) c7
    refine r_bipush (v := -102) dX8_letters_10 (by decide) ?_
    exact r_iret dX8_letters_12 ⟨_, rfl, Fr.rf _ _ _, (let_bad hg).1.symm, by rw [(let_bad hg).2]; exact hpn, fun k hk => by rw [(let_bad hg).2] at hk; rw [letG_lt hk]; exact hpg k hk⟩
def rmX8_blank : Room := { frames := 0, cells := 0, slots := 0, locals := 0 }
set_option maxHeartbeats 4000000 in
set_option maxRecDepth 100000 in
theorem kX8_blank (g : Gx) (M : Mm) (hs : St M) : Ct g yX8_blank cX8_blank 2 (Option.some FieldType.int) rmX8_blank [.ref (g.1 + 0)] M (pI fun r M' => M' = sI M 1 1 0 ∧ r = mI M 1 1) := by
  refine Ct.of rfl (Nat.le_of_ble_eq_true rfl) (fun x => ?_)
  refine r_aload_n dX8_blank_0 rfl ?_
  refine r_getR flX8_12_8 rfl (hs.lt (by decide)) (hs.T 0 rfl) (hs.R 0 0 rfl) dX8_blank_1 ?_
  refine r_getI flX8_89_4 rfl (hs.lt (by decide)) (hs.T 1 rfl) dX8_blank_4 ?_
  refine r_istore_n dX8_blank_7 (by decide) rfl ?_
  refine r_aload_n dX8_blank_8 rfl ?_
  refine r_getR flX8_12_8 rfl (hs.lt (by decide)) (hs.T 0 rfl) (hs.R 0 0 rfl) dX8_blank_9 ?_
  refine r_iconst (v := 0) dX8_blank_12 (by decide) ?_
  refine r_putI fpX8_89_4 rfl (hs.lt (by decide)) (hs.T 1 rfl) rfl rfl dX8_blank_13 ?_
  refine r_iload_n dX8_blank_16 rfl ?_
  exact r_iret dX8_blank_17 ⟨_, rfl, rfl, rfl⟩
