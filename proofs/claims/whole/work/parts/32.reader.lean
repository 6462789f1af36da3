theorem PC.up {M : Mm} {st n : Nat} {rw' : Rw} {d v : Int32} (h : PC M (st, n, rw')) (hst : st < 3) (hv : v = nI (st + 1)) : PC (sI (sI M (4 + st) n d) 3 5 v) (st + 1, n, va_up rw' (4 * n + st) d) := by
  obtain ⟨h1, h2, h3⟩ := h
  refine ⟨by rw [mI_sI, va_up_self, hv], by rw [mI_sI, va_up_ne _ _ (by decide), mI_sI_ne (by omega)]; exact h2, fun i c hc hl => ?_⟩
  have hl : 4 * i + c < 4 * n + (if st + 1 = 4 then 0 else st + 1) := hl
  rw [if_neg (by omega)] at hl
  have h3 : ∀ i c, c < 4 → 4 * i + c < 4 * n + (if st = 4 then 0 else st) → mI M (4 + c) i = rw' (4 * i + c) := h3
  rw [if_neg (by omega)] at h3
  show mI (sI (sI M (4 + st) n d) 3 5 v) (4 + c) i = va_up rw' (4 * n + st) d (4 * i + c)
  rw [mI_sI_ne (by omega)]
  by_cases e : c = st
  · subst e
    rw [mI_sI, va_up_if, va_up_if]
    by_cases e2 : i = n
    · subst e2; simp
    · rw [if_neg e2, if_neg (by omega)]; exact h3 i c hc (by omega)
  · rw [mI_sI_ne (by omega), va_up_ne _ _ (by omega)]
    exact h3 i c hc (by omega)
theorem PC.up3 {M : Mm} {n : Nat} {rw' : Rw} {d v : Int32} (h : PC M (3, n, rw')) (hv : v = nI (n + 1)) : PC (sI (sI (sI M 7 n d) 3 4 v) 3 5 4) (4, n + 1, va_up rw' (4 * n + 3) d) := by
  obtain ⟨h1, h2, h3⟩ := h
  refine ⟨by rw [mI_sI, va_up_self]; rfl, by rw [mI_sI, va_up_ne _ _ (by decide), mI_sI, va_up_self, hv], fun i c hc hl => ?_⟩
  have hl : 4 * i + c < 4 * (n + 1) + 0 := hl
  have h3 : ∀ i c, c < 4 → 4 * i + c < 4 * n + 3 → mI M (4 + c) i = rw' (4 * i + c) := h3
  show mI (sI (sI (sI M 7 n d) 3 4 v) 3 5 4) (4 + c) i = va_up rw' (4 * n + 3) d (4 * i + c)
  rw [mI_sI_ne (by omega), mI_sI_ne (by omega)]
  by_cases e : c = 3
  · subst e
    rw [show 4 + 3 = 7 by decide, mI_sI, va_up_if, va_up_if]
    by_cases e2 : i = n
    · subst e2; simp
    · rw [if_neg e2, if_neg (by omega)]; exact h3 i 3 hc (by omega)
  · rw [mI_sI_ne (by omega), va_up_ne _ _ (by omega)]
    exact h3 i c hc (by omega)
theorem PC.up4 {M : Mm} {n : Nat} {rw' : Rw} (h : PC M (4, n, rw')) : PC (sI M 3 5 0) (0, n, rw') := by
  obtain ⟨h1, h2, h3⟩ := h
  refine ⟨by rw [mI_sI, va_up_self]; rfl, by rw [mI_sI, va_up_ne _ _ (by decide)]; exact h2, fun i c hc hl => ?_⟩
  rw [mI_sI_ne (by omega)]
  exact h3 i c hc hl
theorem PC.eq {M M' : Mm} {q : Ps} (h : PC M q) (e5 : mI M' 3 5 = mI M 3 5) (e4 : mI M' 3 4 = mI M 3 4) (ea : ∀ c, c < 4 → mI M' (4 + c) = mI M (4 + c)) : PC M' q := ⟨e5.trans h.1, e4.trans h.2.1, fun i c hc hl => by rw [ea c hc]; exact h.2.2 i c hc hl⟩
theorem PC.up0 {M : Mm} {n : Nat} {rw' : Rw} {d z : Int32} (h : PC M (0, n, rw')) (hz : z = 0) : PC (sI (sI (sI M 4 n z) 5 n d) 3 5 2) (2, n, va_up (va_up rw' (4 * n) 0) (4 * n + 1) d) := by
  subst hz
  have h1 : PC (sI (sI M 4 n 0) 3 5 1) (1, n, va_up rw' (4 * n) 0) := h.up (st := 0) (by decide) rfl
  have h2 : PC (sI (sI (sI (sI M 4 n 0) 3 5 1) 5 n d) 3 5 2) (2, n, va_up (va_up rw' (4 * n) 0) (4 * n + 1) d) := h1.up (st := 1) (by decide) rfl
  refine h2.eq rfl rfl (fun c hc => ?_)
  rcases (show c = 0 ∨ c = 1 ∨ c = 2 ∨ c = 3 by omega) with e | e | e | e <;> subst e <;> rfl
def rmX5_kindOf : Room := { frames := 0, cells := 0, slots := 0, locals := 0 }
set_option maxHeartbeats 4000000 in
set_option maxRecDepth 100000 in
theorem kX5_kindOf (g : Gx) (M : Mm) (c : Int32) : Ct g yX5_kindOf cX5_kindOf 1 (Option.some FieldType.int) rmX5_kindOf [.int c] M (pI fun r M' => M' = M ∧ r = nI (kdC c)) := by
  refine Ct.of rfl (Nat.le_of_ble_eq_true rfl) (fun x => ?_)
  refine r_iload_n dX5_kindOf_0 rfl ?_
  by_cases w98 : c = 98
  · skip
    subst w98
    refine r_lookup 46 (off := 45) dX5_kindOf_1 (by decide) (by decide) (by decide) ?_
    refine r_iconst (v := 2) dX5_kindOf_46 (by decide) ?_
    exact r_iret dX5_kindOf_47 ⟨_, rfl, rfl, by decide⟩
  · skip
    by_cases w104 : c = 104
    · skip
      subst w104
      refine r_lookup 48 (off := 47) dX5_kindOf_1 (by decide) (by decide) (by decide) ?_
      refine r_iconst (v := 3) dX5_kindOf_48 (by decide) ?_
      exact r_iret dX5_kindOf_49 ⟨_, rfl, rfl, by decide⟩
    · skip
      by_cases w109 : c = 109
      · skip
        subst w109
        refine r_lookup 50 (off := 49) dX5_kindOf_1 (by decide) (by decide) (by decide) ?_
        refine r_iconst (v := 4) dX5_kindOf_50 (by decide) ?_
        exact r_iret dX5_kindOf_51 ⟨_, rfl, rfl, by decide⟩
      · skip
        by_cases w115 : c = 115
        · skip
          subst w115
          refine r_lookup 44 (off := 43) dX5_kindOf_1 (by decide) (by decide) (by decide) ?_
          refine r_iconst (v := 1) dX5_kindOf_44 (by decide) ?_
          exact r_iret dX5_kindOf_45 ⟨_, rfl, rfl, by decide⟩
        · skip
          refine r_lookup 52 (off := 51) dX5_kindOf_1 (by decide) (by show Op.lookupswitch.offset [(98, 45), (104, 47), (109, 49), (115, 43)] 51 _ = _; rw [lv_osw w98 (by decide), lv_osw w104 (by decide), lv_osw w109 (by decide), lv_osw w115 (by decide)]; rfl) (by decide) ?_
          refine r_iconst (v := 0) dX5_kindOf_52 (by decide) ?_
          exact r_iret dX5_kindOf_53 ⟨_, rfl, rfl, by unfold kdC; simp [*]; rfl⟩
def rmX5_takesPayer : Room := { frames := 1, cells := 0, slots := 0, locals := 20 }
set_option maxHeartbeats 4000000 in
set_option maxRecDepth 100000 in
theorem kX5_takesPayer (g : Gx) (M : Mm) (hs : St M) (n : Nat) (hn : n < 8) (hrd : mI M 3 4 = nI n) (c : Int32) : Ct g yX5_takesPayer cX5_takesPayer 2 (Option.some FieldType.boolean) rmX5_takesPayer [.ref (g.1 + 3), .int c] M (pI fun r M' => (0 ≤ c - 48 ∧ c - 48 < 8 → r = 1 ∧ M' = sI (sI M 5 n (c - 48)) 3 5 2) ∧ (¬ (0 ≤ c - 48 ∧ c - 48 < 8) → r = 0 ∧ M' = M)) := by
  refine Ct.of rfl (Nat.le_of_ble_eq_true rfl) (fun x => ?_)
  refine r_iload_n dX5_takesPayer_0 rfl ?_
  refine r_bipush (v := 48) dX5_takesPayer_1 (by decide) ?_
  refine r_isub dX5_takesPayer_3 ?_
  refine r_cSN1i csX5_62 (kX8_isHouse g M (c - 48)) hs.pos ⟨Nat.le_of_ble_eq_true rfl, Nat.le_of_ble_eq_true rfl⟩ (Nat.le_of_ble_eq_true rfl) ⟨Nat.le_of_ble_eq_true rfl, Nat.le_of_ble_eq_true rfl⟩ dX5_takesPayer_4 (fun r4 M4 h4 => ?_)
  obtain ⟨e4, h4⟩ := h4
  replace e4 := e4.symm
  subst e4
  refine r_if_ne 12 dX5_takesPayer_7 (by decide) (fun c7 => ?_) (fun c7 => ?_)
  · skip
    refine r_aload_n dX5_takesPayer_12 rfl ?_
    refine r_getR flX5_15_5 rfl (hs.lt (by decide)) (hs.T 3 rfl) (hs.R 3 1 rfl) dX5_takesPayer_13 ?_
    refine r_aload_n dX5_takesPayer_16 rfl ?_
    refine r_getI flX5_24_5 rfl (hs.lt (by decide)) (hs.T 3 rfl) dX5_takesPayer_17 ?_
    refine r_iload_n dX5_takesPayer_20 rfl ?_
    refine r_bipush (v := 48) dX5_takesPayer_21 (by decide) ?_
    refine r_isub dX5_takesPayer_23 ?_
    refine r_ias (hs.T 5 rfl) (hs.lt (by decide)) (ix_of hrd hn (by decide)) dX5_takesPayer_24 ?_
    refine r_aload_n dX5_takesPayer_25 rfl ?_
    refine r_iconst (v := 2) dX5_takesPayer_26 (by decide) ?_
    refine r_putI fpX5_28_5 rfl (hs.lt (by decide)) (hs.T 3 rfl) rfl rfl dX5_takesPayer_27 ?_
    refine r_iconst (v := 1) dX5_takesPayer_30 (by decide) ?_
    exact r_zret (nar_bool (by simp)) dX5_takesPayer_31 ⟨_, rfl, fun _ => ⟨rfl, rfl⟩, fun q => absurd (one_of h4 c7) q⟩
  · skip
    refine r_iconst (v := 0) dX5_takesPayer_10 (by decide) ?_
    exact r_zret (nar_bool (by simp)) dX5_takesPayer_11 ⟨_, rfl, fun q => absurd q (zero_of h4 c7), fun _ => ⟨rfl, rfl⟩⟩
def rmX5_takesRobbed : Room := { frames := 1, cells := 0, slots := 0, locals := 20 }
set_option maxHeartbeats 4000000 in
set_option maxRecDepth 100000 in
theorem kX5_takesRobbed (g : Gx) (M : Mm) (hs : St M) (n : Nat) (hn : n < 8) (hrd : mI M 3 4 = nI n) (c : Int32) : Ct g yX5_takesRobbed cX5_takesRobbed 2 (Option.some FieldType.boolean) rmX5_takesRobbed [.ref (g.1 + 3), .int c] M (pI fun r M' => ((0 ≤ c - 48 ∧ c - 48 < 8) ∧ ¬ c - 48 = mI M 5 n → r = 1 ∧ M' = sI (sI M 6 n (c - 48)) 3 5 3) ∧ (¬ ((0 ≤ c - 48 ∧ c - 48 < 8) ∧ ¬ c - 48 = mI M 5 n) → r = 0 ∧ M' = M)) := by
  refine Ct.of rfl (Nat.le_of_ble_eq_true rfl) (fun x => ?_)
  refine r_iload_n dX5_takesRobbed_0 rfl ?_
  refine r_bipush (v := 48) dX5_takesRobbed_1 (by decide) ?_
  refine r_isub dX5_takesRobbed_3 ?_
  refine r_cSN1i csX5_62 (kX8_isHouse g M (c - 48)) hs.pos ⟨Nat.le_of_ble_eq_true rfl, Nat.le_of_ble_eq_true rfl⟩ (Nat.le_of_ble_eq_true rfl) ⟨Nat.le_of_ble_eq_true rfl, Nat.le_of_ble_eq_true rfl⟩ dX5_takesRobbed_4 (fun r4 M4 h4 => ?_)
  obtain ⟨e4, h4⟩ := h4
  replace e4 := e4.symm
  subst e4
  refine r_if_eq 26 dX5_takesRobbed_7 (by decide) (fun c7 => ?_) (fun c7 => ?_)
  · skip
    refine r_iconst (v := 0) dX5_takesRobbed_26 (by decide) ?_
    exact r_zret (nar_bool (by simp)) dX5_takesRobbed_27 ⟨_, rfl, fun q => absurd q.1 (zero_of h4 c7), fun _ => ⟨rfl, rfl⟩⟩
  · skip
    refine r_iload_n dX5_takesRobbed_10 rfl ?_
    refine r_bipush (v := 48) dX5_takesRobbed_11 (by decide) ?_
    refine r_isub dX5_takesRobbed_13 ?_
    refine r_aload_n dX5_takesRobbed_14 rfl ?_
    refine r_getR flX5_15_5 rfl (hs.lt (by decide)) (hs.T 3 rfl) (hs.R 3 1 rfl) dX5_takesRobbed_15 ?_
    refine r_aload_n dX5_takesRobbed_18 rfl ?_
    refine r_getI flX5_24_5 rfl (hs.lt (by decide)) (hs.T 3 rfl) dX5_takesRobbed_19 ?_
    refine r_ial (hs.T 5 rfl) (hs.lt (by decide)) (ix_of hrd hn (by decide)) dX5_takesRobbed_22 ?_
    refine r_icmp_ne 28 dX5_takesRobbed_23 (by decide) (fun c23 => ?_) (fun c23 => ?_)
    · skip
      refine r_aload_n dX5_takesRobbed_28 rfl ?_
      refine r_getR flX5_18_5 rfl (hs.lt (by decide)) (hs.T 3 rfl) (hs.R 3 2 rfl) dX5_takesRobbed_29 ?_
      refine r_aload_n dX5_takesRobbed_32 rfl ?_
      refine r_getI flX5_24_5 rfl (hs.lt (by decide)) (hs.T 3 rfl) dX5_takesRobbed_33 ?_
      refine r_iload_n dX5_takesRobbed_36 rfl ?_
      refine r_bipush (v := 48) dX5_takesRobbed_37 (by decide) ?_
      refine r_isub dX5_takesRobbed_39 ?_
      refine r_ias (hs.T 6 rfl) (hs.lt (by decide)) (ix_of hrd hn (by decide)) dX5_takesRobbed_40 ?_
      refine r_aload_n dX5_takesRobbed_41 rfl ?_
      refine r_iconst (v := 3) dX5_takesRobbed_42 (by decide) ?_
      refine r_putI fpX5_28_5 rfl (hs.lt (by decide)) (hs.T 3 rfl) rfl rfl dX5_takesRobbed_43 ?_
      refine r_iconst (v := 1) dX5_takesRobbed_46 (by decide) ?_
      exact r_zret (nar_bool (by simp)) dX5_takesRobbed_47 ⟨_, rfl, fun _ => ⟨rfl, rfl⟩, fun q => absurd ⟨one_of h4 c7, c23⟩ q⟩
    · skip
      refine r_iconst (v := 0) dX5_takesRobbed_26 (by decide) ?_
      exact r_zret (nar_bool (by simp)) dX5_takesRobbed_27 ⟨_, rfl, fun q => absurd c23 q.2, fun _ => ⟨rfl, rfl⟩⟩
def rmX5_takesFee : Room := { frames := 0, cells := 0, slots := 0, locals := 0 }
set_option maxHeartbeats 4000000 in
set_option maxRecDepth 100000 in
theorem kX5_takesFee (g : Gx) (M : Mm) (hs : St M) (n : Nat) (hn : n < 8) (hrd : mI M 3 4 = nI n) (c : Int32) : Ct g yX5_takesFee cX5_takesFee 2 (Option.some FieldType.boolean) rmX5_takesFee [.ref (g.1 + 3), .int c] M (pI fun r M' => (48 ≤ c ∧ c ≤ 57 → r = 1 ∧ M' = sI (sI (sI M 7 n (c - 48)) 3 4 (mI M 3 4 + 1)) 3 5 4) ∧ (¬ (48 ≤ c ∧ c ≤ 57) → r = 0 ∧ M' = M)) := by
  refine Ct.of rfl (Nat.le_of_ble_eq_true rfl) (fun x => ?_)
  refine r_iload_n dX5_takesFee_0 rfl ?_
  refine r_bipush (v := 48) dX5_takesFee_1 (by decide) ?_
  refine r_icmp_lt 12 dX5_takesFee_3 (by decide) (fun c3 => ?_) (fun c3 => ?_)
  · skip
    refine r_iconst (v := 0) dX5_takesFee_12 (by decide) ?_
    exact r_zret (nar_bool (by simp)) dX5_takesFee_13 ⟨_, rfl, fun q => by grind, fun _ => ⟨rfl, rfl⟩⟩
  · skip
    refine r_iload_n dX5_takesFee_6 rfl ?_
    refine r_bipush (v := 57) dX5_takesFee_7 (by decide) ?_
    refine r_icmp_le 14 dX5_takesFee_9 (by decide) (fun c9 => ?_) (fun c9 => ?_)
    · skip
      refine r_aload_n dX5_takesFee_14 rfl ?_
      refine r_getR flX5_21_5 rfl (hs.lt (by decide)) (hs.T 3 rfl) (hs.R 3 3 rfl) dX5_takesFee_15 ?_
      refine r_aload_n dX5_takesFee_18 rfl ?_
      refine r_getI flX5_24_5 rfl (hs.lt (by decide)) (hs.T 3 rfl) dX5_takesFee_19 ?_
      refine r_iload_n dX5_takesFee_22 rfl ?_
      refine r_bipush (v := 48) dX5_takesFee_23 (by decide) ?_
      refine r_isub dX5_takesFee_25 ?_
      refine r_ias (hs.T 7 rfl) (hs.lt (by decide)) (ix_of hrd hn (by decide)) dX5_takesFee_26 ?_
      refine r_aload_n dX5_takesFee_27 rfl ?_
      refine r_dup dX5_takesFee_28 rfl ?_
      refine r_getI flX5_24_5 rfl (hs.lt (by decide)) (hs.T 3 rfl) dX5_takesFee_29 ?_
      refine r_iconst (v := 1) dX5_takesFee_32 (by decide) ?_
      refine r_iadd dX5_takesFee_33 ?_
      refine r_putI fpX5_24_5 rfl (hs.lt (by decide)) (hs.T 3 rfl) rfl rfl dX5_takesFee_34 ?_
      refine r_aload_n dX5_takesFee_37 rfl ?_
      refine r_iconst (v := 4) dX5_takesFee_38 (by decide) ?_
      refine r_putI fpX5_28_5 rfl (hs.lt (by decide)) (hs.T 3 rfl) rfl rfl dX5_takesFee_39 ?_
      refine r_iconst (v := 1) dX5_takesFee_42 (by decide) ?_
      exact r_zret (nar_bool (by simp)) dX5_takesFee_43 ⟨_, rfl, fun _ => ⟨rfl, rfl⟩, fun q => by grind⟩
    · skip
      refine r_iconst (v := 0) dX5_takesFee_12 (by decide) ?_
      exact r_zret (nar_bool (by simp)) dX5_takesFee_13 ⟨_, rfl, fun q => by grind, fun _ => ⟨rfl, rfl⟩⟩
def rmX5_takesComma : Room := { frames := 0, cells := 0, slots := 0, locals := 0 }
set_option maxHeartbeats 4000000 in
set_option maxRecDepth 100000 in
theorem kX5_takesComma (g : Gx) (M : Mm) (hs : St M) (c : Int32) : Ct g yX5_takesComma cX5_takesComma 2 (Option.some FieldType.boolean) rmX5_takesComma [.ref (g.1 + 3), .int c] M (pI fun r M' => (c = 44 ∧ mI M 3 4 < 8 → r = 1 ∧ M' = sI M 3 5 0) ∧ (¬ (c = 44 ∧ mI M 3 4 < 8) → r = 0 ∧ M' = M)) := by
  refine Ct.of rfl (Nat.le_of_ble_eq_true rfl) (fun x => ?_)
  refine r_iload_n dX5_takesComma_0 rfl ?_
  refine r_bipush (v := 44) dX5_takesComma_1 (by decide) ?_
  refine r_icmp_ne 15 dX5_takesComma_3 (by decide) (fun c3 => ?_) (fun c3 => ?_)
  · skip
    refine r_iconst (v := 0) dX5_takesComma_15 (by decide) ?_
    exact r_zret (nar_bool (by simp)) dX5_takesComma_16 ⟨_, rfl, fun q => by grind, fun _ => ⟨rfl, rfl⟩⟩
  · skip
    refine r_aload_n dX5_takesComma_6 rfl ?_
    refine r_getI flX5_24_5 rfl (hs.lt (by decide)) (hs.T 3 rfl) dX5_takesComma_7 ?_
    refine r_bipush (v := 8) dX5_takesComma_10 (by decide) ?_
    refine r_icmp_lt 17 dX5_takesComma_12 (by decide) (fun c12 => ?_) (fun c12 => ?_)
    · skip
      refine r_aload_n dX5_takesComma_17 rfl ?_
      refine r_iconst (v := 0) dX5_takesComma_18 (by decide) ?_
      refine r_putI fpX5_28_5 rfl (hs.lt (by decide)) (hs.T 3 rfl) rfl rfl dX5_takesComma_19 ?_
      refine r_iconst (v := 1) dX5_takesComma_22 (by decide) ?_
      exact r_zret (nar_bool (by simp)) dX5_takesComma_23 ⟨_, rfl, fun _ => ⟨rfl, rfl⟩, fun q => by grind⟩
    · skip
      refine r_iconst (v := 0) dX5_takesComma_15 (by decide) ?_
      exact r_zret (nar_bool (by simp)) dX5_takesComma_16 ⟨_, rfl, fun q => by grind, fun _ => ⟨rfl, rfl⟩⟩
def rmX5_takesStart : Room := { frames := 2, cells := 0, slots := 0, locals := 41 }
set_option maxHeartbeats 4000000 in
set_option maxRecDepth 100000 in
theorem kX5_takesStart (g : Gx) (M : Mm) (hs : St M) (n : Nat) (hn : n < 8) (hrd : mI M 3 4 = nI n) (c : Int32) : Ct g yX5_takesStart cX5_takesStart 2 (Option.some FieldType.boolean) rmX5_takesStart [.ref (g.1 + 3), .int c] M (pI fun r M' => (¬ kdC c = 0 → r = 1 ∧ M' = sI (sI M 4 n (nI (kdC c))) 3 5 1) ∧ (kdC c = 0 → (0 ≤ c - 48 ∧ c - 48 < 8 → r = 1 ∧ M' = sI (sI (sI M 4 n (nI (kdC c))) 5 n (c - 48)) 3 5 2) ∧ (¬ (0 ≤ c - 48 ∧ c - 48 < 8) → r = 0 ∧ M' = (sI M 4 n (nI (kdC c)))))) := by
  refine Ct.of rfl (Nat.le_of_ble_eq_true rfl) (fun x => ?_)
  refine r_aload_n dX5_takesStart_0 rfl ?_
  refine r_getI flX5_24_5 rfl (hs.lt (by decide)) (hs.T 3 rfl) dX5_takesStart_1 ?_
  refine r_bipush (v := 8) dX5_takesStart_4 (by decide) ?_
  refine r_icmp_lt 11 dX5_takesStart_6 (by decide) (fun c6 => ?_) (fun c6 => ?_)
  · skip
    refine r_aload_n dX5_takesStart_11 rfl ?_
    refine r_getR flX5_9_5 rfl (hs.lt (by decide)) (hs.T 3 rfl) (hs.R 3 0 rfl) dX5_takesStart_12 ?_
    refine r_aload_n dX5_takesStart_15 rfl ?_
    refine r_getI flX5_24_5 rfl (hs.lt (by decide)) (hs.T 3 rfl) dX5_takesStart_16 ?_
    refine r_iload_n dX5_takesStart_19 rfl ?_
    refine r_cS1i csX5_58 (kX5_kindOf g M c) hs.pos ⟨Nat.le_of_ble_eq_true rfl, Nat.le_of_ble_eq_true rfl⟩ (Nat.le_of_ble_eq_true rfl) ⟨Nat.le_of_ble_eq_true rfl, Nat.le_of_ble_eq_true rfl⟩ dX5_takesStart_20 (fun r20 M20 h20 => ?_)
    obtain ⟨e20, h20⟩ := h20
    replace e20 := e20.symm
    subst e20
    subst h20
    refine r_ias (hs.T 4 rfl) (hs.lt (by decide)) (ix_of hrd hn (by decide)) dX5_takesStart_23 ?_
    refine r_aload_n dX5_takesStart_24 rfl ?_
    refine r_getR flX5_9_5 rfl (hs.lt (by decide)) (hs.T 3 rfl) (hs.R 3 0 rfl) dX5_takesStart_25 ?_
    refine r_aload_n dX5_takesStart_28 rfl ?_
    refine r_getI flX5_24_5 rfl (hs.lt (by decide)) (hs.T 3 rfl) dX5_takesStart_29 ?_
    refine r_ial (hs.T 4 rfl) (hs.lt (by decide)) (ix_of hrd hn (by decide)) dX5_takesStart_32 ?_
    refine r_if_ne 42 dX5_takesStart_33 (by decide) (fun c33 => ?_) (fun c33 => ?_)
    · skip
      have hk : ¬ kdC c = 0 := fun q => c33 (by rw [mI_sI, va_up_self, q]; rfl)
      refine r_aload_n dX5_takesStart_42 rfl ?_
      refine r_iconst (v := 1) dX5_takesStart_43 (by decide) ?_
      refine r_putI fpX5_28_5 rfl (hs.lt (by decide)) (hs.T 3 rfl) rfl rfl dX5_takesStart_44 ?_
      refine r_iconst (v := 1) dX5_takesStart_47 (by decide) ?_
      exact r_zret (nar_bool (by simp)) dX5_takesStart_48 ⟨_, rfl, fun _ => ⟨rfl, rfl⟩, fun q => absurd q hk⟩
    · skip
      have hk : kdC c = 0 := by rw [mI_sI, va_up_self] at c33; exact (nI_eq (b := 0) (by have := kdC_lt c; omega) (by decide)).mp c33
      refine r_aload_n dX5_takesStart_36 rfl ?_
      refine r_iload_n dX5_takesStart_37 rfl ?_
      refine r_cV1i cvX5_46 (kX5_takesPayer g (sI M 4 n (nI (kdC c))) hs n hn hrd c) (hs.lt (by decide)) (hs.T 3 rfl) ⟨Nat.le_of_ble_eq_true rfl, Nat.le_of_ble_eq_true rfl⟩ (Nat.le_of_ble_eq_true rfl) ⟨Nat.le_of_ble_eq_true rfl, Nat.le_of_ble_eq_true rfl⟩ dX5_takesStart_38 (fun r38 M38 h38 => ?_)
      have hr38 : r38 = 0 ∨ r38 = 1 := by by_cases q : 0 ≤ c - 48 ∧ c - 48 < 8; exact Or.inr (h38.1 q).1; exact Or.inl (h38.2 q).1
      exact r_zret (nar_bool hr38) dX5_takesStart_41 ⟨_, rfl, fun q => absurd hk q, fun _ => h38⟩
  · skip
    exact absurd (by rw [hrd]; exact nI_lt (b := 8) hn (by decide)) c6
def rmX5_isAtEnd : Room := { frames := 0, cells := 0, slots := 0, locals := 0 }
set_option maxHeartbeats 4000000 in
set_option maxRecDepth 100000 in
theorem kX5_isAtEnd (g : Gx) (M : Mm) (hs : St M) : Ct g yX5_isAtEnd cX5_isAtEnd 1 (Option.some FieldType.boolean) rmX5_isAtEnd [.ref (g.1 + 3)] M (pI fun r M' => M' = M ∧ r = (if mI M 3 5 = 4 then 1 else 0)) := by
  refine Ct.of rfl (Nat.le_of_ble_eq_true rfl) (fun x => ?_)
  refine r_aload_n dX5_isAtEnd_0 rfl ?_
  refine r_getI flX5_28_5 rfl (hs.lt (by decide)) (hs.T 3 rfl) dX5_isAtEnd_1 ?_
  refine r_iconst (v := 4) dX5_isAtEnd_4 (by decide) ?_
  refine r_icmp_ne 12 dX5_isAtEnd_5 (by decide) (fun c5 => ?_) (fun c5 => ?_)
  · skip
    refine r_iconst (v := 0) dX5_isAtEnd_12 (by decide) ?_
    exact r_zret (nar_bool (by simp)) dX5_isAtEnd_13 ⟨_, rfl, rfl, by grind⟩
  · skip
    refine r_iconst (v := 1) dX5_isAtEnd_8 (by decide) ?_
    refine r_goto 13 dX5_isAtEnd_9 (by decide) ?_
    exact r_zret (nar_bool (by simp)) dX5_isAtEnd_13 ⟨_, rfl, rfl, by grind⟩
def rmX5_takes : Room := { frames := 3, cells := 0, slots := 0, locals := 62 }
theorem Fr_s1 {is ls : List Nat} {M : Mm} {a k : Nat} {v : Int32} (ha : a ∈ is) : Fr is ls M (sI M a k v) := (Fr.rf is ls M).sI ha
theorem tk0 {M M' : Mm} {n : Nat} {rw' : Rw} {c r : Int32} (hp : PC M (0, n, rw')) (h : (¬ kdC c = 0 → r = 1 ∧ M' = sI (sI M 4 n (nI (kdC c))) 3 5 1) ∧ (kdC c = 0 → (0 ≤ c - 48 ∧ c - 48 < 8 → r = 1 ∧ M' = sI (sI (sI M 4 n (nI (kdC c))) 5 n (c - 48)) 3 5 2) ∧ (¬ (0 ≤ c - 48 ∧ c - 48 < 8) → r = 0 ∧ M' = sI M 4 n (nI (kdC c))))) : b01 r ∧ Fr [3, 4, 5, 6, 7] [] M M' ∧ ((∃ q', psT c (0, n, rw') = some q' ∧ r = 1 ∧ PC M' q') ∨ (psT c (0, n, rw') = none ∧ r = 0)) := by
  by_cases hk : kdC c = 0
  · by_cases hd : 0 ≤ c - 48 ∧ c - 48 < 8
    · obtain ⟨e1, e2⟩ := (h.2 hk).1 hd
      refine ⟨Or.inr e1, by rw [e2]; exact ((Fr_s1 (by simp)).sI (by simp)).sI (by simp), Or.inl ⟨_, by unfold psT; simp only [if_true]; rw [if_pos hk, if_pos hd], e1, ?_⟩⟩
      rw [e2]; exact hp.up0 (by rw [hk]; rfl)
    · obtain ⟨e1, e2⟩ := (h.2 hk).2 hd
      exact ⟨Or.inl e1, by rw [e2]; exact Fr_s1 (by simp), Or.inr ⟨by unfold psT; simp only [if_true]; rw [if_pos hk, if_neg hd], e1⟩⟩
  · obtain ⟨e1, e2⟩ := h.1 hk
    refine ⟨Or.inr e1, by rw [e2]; exact (Fr_s1 (by simp)).sI (by simp), Or.inl ⟨_, by unfold psT; simp only [if_true]; rw [if_neg hk], e1, ?_⟩⟩
    rw [e2]; exact hp.up (st := 0) (by decide) rfl
theorem tk1 {M M' : Mm} {n : Nat} {rw' : Rw} {c r : Int32} (hp : PC M (1, n, rw')) (h : (0 ≤ c - 48 ∧ c - 48 < 8 → r = 1 ∧ M' = sI (sI M 5 n (c - 48)) 3 5 2) ∧ (¬ (0 ≤ c - 48 ∧ c - 48 < 8) → r = 0 ∧ M' = M)) : b01 r ∧ Fr [3, 4, 5, 6, 7] [] M M' ∧ ((∃ q', psT c (1, n, rw') = some q' ∧ r = 1 ∧ PC M' q') ∨ (psT c (1, n, rw') = none ∧ r = 0)) := by
  by_cases hd : 0 ≤ c - 48 ∧ c - 48 < 8
  · obtain ⟨e1, e2⟩ := h.1 hd
    refine ⟨Or.inr e1, by rw [e2]; exact (Fr_s1 (by simp)).sI (by simp), Or.inl ⟨(2, n, va_up rw' (4 * n + 1) (c - 48)), by unfold psT; simp [hd], e1, ?_⟩⟩
    rw [e2]; exact hp.up (st := 1) (by decide) rfl
  · obtain ⟨e1, e2⟩ := h.2 hd
    exact ⟨Or.inl e1, by rw [e2]; exact Fr.rf _ _ _, Or.inr ⟨by unfold psT; simp only [Nat.one_ne_zero, if_false, if_true, if_neg hd], e1⟩⟩
theorem tk2 {M M' : Mm} {n : Nat} {rw' : Rw} {c r : Int32} (hp : PC M (2, n, rw')) (h : ((0 ≤ c - 48 ∧ c - 48 < 8) ∧ ¬ c - 48 = mI M 5 n → r = 1 ∧ M' = sI (sI M 6 n (c - 48)) 3 5 3) ∧ (¬ ((0 ≤ c - 48 ∧ c - 48 < 8) ∧ ¬ c - 48 = mI M 5 n) → r = 0 ∧ M' = M)) : b01 r ∧ Fr [3, 4, 5, 6, 7] [] M M' ∧ ((∃ q', psT c (2, n, rw') = some q' ∧ r = 1 ∧ PC M' q') ∨ (psT c (2, n, rw') = none ∧ r = 0)) := by
  rw [show mI M 5 n = rw' (4 * n + 1) from hp.2.2 n 1 (by decide) (by show 4 * n + 1 < 4 * n + 2; omega)] at h
  by_cases hd : (0 ≤ c - 48 ∧ c - 48 < 8) ∧ ¬ c - 48 = rw' (4 * n + 1)
  · obtain ⟨e1, e2⟩ := h.1 hd
    refine ⟨Or.inr e1, by rw [e2]; exact (Fr_s1 (by simp)).sI (by simp), Or.inl ⟨(3, n, va_up rw' (4 * n + 2) (c - 48)), by unfold psT; simp [hd], e1, ?_⟩⟩
    rw [e2]; exact hp.up (st := 2) (by decide) rfl
  · obtain ⟨e1, e2⟩ := h.2 hd
    exact ⟨Or.inl e1, by rw [e2]; exact Fr.rf _ _ _, Or.inr ⟨by unfold psT; rw [if_neg (by simp), if_neg (by simp), if_pos rfl, if_neg hd], e1⟩⟩
theorem tk3 {M M' : Mm} {n : Nat} {rw' : Rw} {c r : Int32} (h0 : 0 ≤ c) (h255 : c ≤ 255) (hp : PC M (3, n, rw')) (h : (48 ≤ c ∧ c ≤ 57 → r = 1 ∧ M' = sI (sI (sI M 7 n (c - 48)) 3 4 (mI M 3 4 + 1)) 3 5 4) ∧ (¬ (48 ≤ c ∧ c ≤ 57) → r = 0 ∧ M' = M)) : b01 r ∧ Fr [3, 4, 5, 6, 7] [] M M' ∧ ((∃ q', psT c (3, n, rw') = some q' ∧ r = 1 ∧ PC M' q') ∨ (psT c (3, n, rw') = none ∧ r = 0)) := by
  have e : (48 ≤ c ∧ c ≤ 57) ↔ (0 ≤ c - 48 ∧ c - 48 ≤ 9) := by constructor <;> intro q <;> constructor <;> grind
  rw [e] at h
  by_cases hd : 0 ≤ c - 48 ∧ c - 48 ≤ 9
  · obtain ⟨e1, e2⟩ := h.1 hd
    refine ⟨Or.inr e1, by rw [e2]; exact ((Fr_s1 (by simp)).sI (by simp)).sI (by simp), Or.inl ⟨(4, n + 1, va_up rw' (4 * n + 3) (c - 48)), by unfold psT; simp [hd], e1, ?_⟩⟩
    rw [e2]; exact hp.up3 (by rw [show mI M 3 4 = nI n from hp.2.1]; exact nI_1 n)
  · obtain ⟨e1, e2⟩ := h.2 hd
    exact ⟨Or.inl e1, by rw [e2]; exact Fr.rf _ _ _, Or.inr ⟨by unfold psT; rw [if_neg (by simp), if_neg (by simp), if_neg (by simp), if_pos rfl, if_neg hd], e1⟩⟩
theorem tk4 {M M' : Mm} {n : Nat} {rw' : Rw} {c r : Int32} (hn : n ≤ 8) (hp : PC M (4, n, rw')) (h : (c = 44 ∧ mI M 3 4 < 8 → r = 1 ∧ M' = sI M 3 5 0) ∧ (¬ (c = 44 ∧ mI M 3 4 < 8) → r = 0 ∧ M' = M)) : b01 r ∧ Fr [3, 4, 5, 6, 7] [] M M' ∧ ((∃ q', psT c (4, n, rw') = some q' ∧ r = 1 ∧ PC M' q') ∨ (psT c (4, n, rw') = none ∧ r = 0)) := by
  have e : mI M 3 4 < 8 ↔ n < 8 := by rw [show mI M 3 4 = nI n from hp.2.1]; exact nI_ltI (b := 8) (by omega) (by decide)
  rw [e] at h
  by_cases hd : c = 44 ∧ n < 8
  · obtain ⟨e1, e2⟩ := h.1 hd
    refine ⟨Or.inr e1, by rw [e2]; exact Fr_s1 (by simp), Or.inl ⟨(0, n, rw'), by unfold psT; simp [hd], e1, ?_⟩⟩
    rw [e2]; exact hp.up4
  · obtain ⟨e1, e2⟩ := h.2 hd
    exact ⟨Or.inl e1, by rw [e2]; exact Fr.rf _ _ _, Or.inr ⟨by unfold psT; rw [if_neg (by simp), if_neg (by simp), if_neg (by simp), if_neg (by simp), if_neg hd], e1⟩⟩
set_option maxHeartbeats 4000000 in
set_option maxRecDepth 100000 in
theorem kX5_takes (g : Gx) (M : Mm) (hs : St M) (q : Ps) (hw : PW q) (hp : PC M q) (c : Int32) (h0 : 0 ≤ c) (h255 : c ≤ 255) : Ct g yX5_takes cX5_takes 2 (Option.some FieldType.boolean) rmX5_takes [.ref (g.1 + 3), .int c] M (pI fun r M' => Fr [3, 4, 5, 6, 7] [] M M' ∧ ((∃ q', psT c q = some q' ∧ r = 1 ∧ PC M' q') ∨ (psT c q = none ∧ r = 0))) := by
  obtain ⟨st, n, rw'⟩ := q
  have h5 : st ≤ 4 := hw.1
  refine Ct.of rfl (Nat.le_of_ble_eq_true rfl) (fun x => ?_)
  refine r_aload_n dX5_takes_0 rfl ?_
  refine r_getI flX5_28_5 rfl (hs.lt (by decide)) (hs.T 3 rfl) dX5_takes_1 ?_
  refine r_top (fun u hu => ?_)
  by_cases w0 : u = 0
  · skip
    subst w0
    refine r_tableIn 36 (off := 32) dX5_takes_4 (by decide) (by decide) (by decide) (by decide) ?_
    have hst : st = 0 := (nI_eq (b := 0) (by omega) (by decide)).mp (hp.1.symm.trans hu.symm)
    subst hst
    have hn : n < 8 := hw.2.2.1 (by simp)
    refine r_aload_n dX5_takes_36 rfl ?_
    refine r_iload_n dX5_takes_37 rfl ?_
    refine r_cV1i cvX5_43 (kX5_takesStart g M hs n hn hp.2.1 c) (hs.lt (by decide)) (hs.T 3 rfl) ⟨Nat.le_of_ble_eq_true rfl, Nat.le_of_ble_eq_true rfl⟩ (Nat.le_of_ble_eq_true rfl) ⟨Nat.le_of_ble_eq_true rfl, Nat.le_of_ble_eq_true rfl⟩ dX5_takes_38 (fun r38 M38 h38 => ?_)
    obtain ⟨hb, hfin⟩ := tk0 hp h38
    exact r_zret (nar_bool hb) dX5_takes_41 ⟨_, rfl, hfin⟩
  · skip
    by_cases w1 : u = 1
    · skip
      subst w1
      refine r_tableIn 42 (off := 38) dX5_takes_4 (by decide) (by decide) (by decide) (by decide) ?_
      have hst : st = 1 := (nI_eq (b := 1) (by omega) (by decide)).mp (hp.1.symm.trans hu.symm)
      subst hst
      have hn : n < 8 := hw.2.2.1 (by simp)
      refine r_aload_n dX5_takes_42 rfl ?_
      refine r_iload_n dX5_takes_43 rfl ?_
      refine r_cV1i cvX5_46 (kX5_takesPayer g M hs n hn hp.2.1 c) (hs.lt (by decide)) (hs.T 3 rfl) ⟨Nat.le_of_ble_eq_true rfl, Nat.le_of_ble_eq_true rfl⟩ (Nat.le_of_ble_eq_true rfl) ⟨Nat.le_of_ble_eq_true rfl, Nat.le_of_ble_eq_true rfl⟩ dX5_takes_44 (fun r44 M44 h44 => ?_)
      obtain ⟨hb, hfin⟩ := tk1 hp h44
      exact r_zret (nar_bool hb) dX5_takes_47 ⟨_, rfl, hfin⟩
    · skip
      by_cases w2 : u = 2
      · skip
        subst w2
        refine r_tableIn 48 (off := 44) dX5_takes_4 (by decide) (by decide) (by decide) (by decide) ?_
        have hst : st = 2 := (nI_eq (b := 2) (by omega) (by decide)).mp (hp.1.symm.trans hu.symm)
        subst hst
        have hn : n < 8 := hw.2.2.1 (by simp)
        refine r_aload_n dX5_takes_48 rfl ?_
        refine r_iload_n dX5_takes_49 rfl ?_
        refine r_cV1i cvX5_49 (kX5_takesRobbed g M hs n hn hp.2.1 c) (hs.lt (by decide)) (hs.T 3 rfl) ⟨Nat.le_of_ble_eq_true rfl, Nat.le_of_ble_eq_true rfl⟩ (Nat.le_of_ble_eq_true rfl) ⟨Nat.le_of_ble_eq_true rfl, Nat.le_of_ble_eq_true rfl⟩ dX5_takes_50 (fun r50 M50 h50 => ?_)
        obtain ⟨hb, hfin⟩ := tk2 hp h50
        exact r_zret (nar_bool hb) dX5_takes_53 ⟨_, rfl, hfin⟩
      · skip
        by_cases w3 : u = 3
        · skip
          subst w3
          refine r_tableIn 54 (off := 50) dX5_takes_4 (by decide) (by decide) (by decide) (by decide) ?_
          have hst : st = 3 := (nI_eq (b := 3) (by omega) (by decide)).mp (hp.1.symm.trans hu.symm)
          subst hst
          have hn : n < 8 := hw.2.2.1 (by simp)
          refine r_aload_n dX5_takes_54 rfl ?_
          refine r_iload_n dX5_takes_55 rfl ?_
          refine r_cV1i cvX5_52 (kX5_takesFee g M hs n hn hp.2.1 c) (hs.lt (by decide)) (hs.T 3 rfl) ⟨Nat.le_of_ble_eq_true rfl, Nat.le_of_ble_eq_true rfl⟩ (Nat.le_of_ble_eq_true rfl) ⟨Nat.le_of_ble_eq_true rfl, Nat.le_of_ble_eq_true rfl⟩ dX5_takes_56 (fun r56 M56 h56 => ?_)
          obtain ⟨hb, hfin⟩ := tk3 h0 h255 hp h56
          exact r_zret (nar_bool hb) dX5_takes_59 ⟨_, rfl, hfin⟩
        · skip
          refine r_tableOut 60 dX5_takes_4 (by have q0 := lv_neT w0 (a := 0) (by decide); have q1 := lv_neT w1 (a := 1) (by decide); have q2 := lv_neT w2 (a := 2) (by decide); have q3 := lv_neT w3 (a := 3) (by decide); omega) (by decide) ?_
          have hst : st = 4 := by
            have e : ∀ z, z < 4 → ¬ st = z → True := fun _ _ _ => trivial
            have h5 : st ≤ 4 := hw.1
            rcases (show st = 0 ∨ st = 1 ∨ st = 2 ∨ st = 3 ∨ st = 4 by omega) with z | z | z | z | z
            · exact absurd (hu.trans (hp.1.trans (by rw [z]; rfl))) w0
            · exact absurd (hu.trans (hp.1.trans (by rw [z]; rfl))) w1
            · exact absurd (hu.trans (hp.1.trans (by rw [z]; rfl))) w2
            · exact absurd (hu.trans (hp.1.trans (by rw [z]; rfl))) w3
            · exact z
          subst hst
          have hn8 : n ≤ 8 := (hw.2.1 rfl).2
          refine r_aload_n dX5_takes_60 rfl ?_
          refine r_iload_n dX5_takes_61 rfl ?_
          refine r_cV1i cvX5_55 (kX5_takesComma g M hs c) (hs.lt (by decide)) (hs.T 3 rfl) ⟨Nat.le_of_ble_eq_true rfl, Nat.le_of_ble_eq_true rfl⟩ (Nat.le_of_ble_eq_true rfl) ⟨Nat.le_of_ble_eq_true rfl, Nat.le_of_ble_eq_true rfl⟩ dX5_takes_62 (fun r62 M62 h62 => ?_)
          obtain ⟨hb, hfin⟩ := tk4 hn8 hp h62
          exact r_zret (nar_bool hb) dX5_takes_65 ⟨_, rfl, hfin⟩
def rmX5_readAhead : Room := { frames := 4, cells := 0, slots := 0, locals := 83 }
set_option maxHeartbeats 4000000 in
set_option maxRecDepth 100000 in
theorem lp_read (g : Gx) (x : Cx) (M : Mm) (hs : St M) (pg : Rw) (pn : Nat) (hpn : mI M 1 1 = nI pn) (h40 : pn ≤ 40) (hpg : ∀ k, k < pn → mI M 2 k = pg k) (hbd : ∀ k, k < pn → 0 ≤ pg k ∧ pg k ≤ 255) : ∀ (n : Nat) (i : Nat) (v : Int32) (M1 : Mm) (q : Ps), i ≤ pn → pn - i < n → v = nI i → Fr [3, 4, 5, 6, 7] [] M M1 → psR pg i = some q → PC M1 q → Vj x g yX5_readAhead cX5_readAhead 3 (Option.some FieldType.int) rmX5_readAhead (Qm x g rmX5_readAhead.cells rmX5_readAhead.slots (pI fun r M' => Fr [3, 4, 5, 6, 7] [] M M' ∧ ∃ k, r = nI k ∧ flP pg pn k ∧ (k = pn → ∃ q, psR pg pn = some q ∧ PC M' q))) 0 0 M1 12 [(0, some (.ref (g.1 + 3))), (1, some (.ref (g.1 + 1))), (2, some (.int v))] [] := by
  intro n
  induction n with
  | zero => intro i v M1 q hi8 hn hv hF hq hpc; omega
  | succ n ih =>
    intro i v M1 q hi8 hn hv hF hq hpc
    have hs1 := hs.fr hF
    subst hv
    have hv : nI i = nI i := rfl
    have hp1 : mI M1 1 1 = nI pn := by rw [hF.2.1 1 (by decide)]; exact hpn
    have e2 : mI M1 2 = mI M 2 := hF.2.1 2 (by decide)
    refine r_iload_n dX5_readAhead_12 rfl ?_
    refine r_aload_n dX5_readAhead_13 rfl ?_
    refine r_getI flX5_31_4 rfl (hs1.lt (by decide)) (hs1.T 1 rfl) dX5_readAhead_14 ?_
    refine r_icmp_ge 39 dX5_readAhead_17 (by decide) (fun c17 => ?_) (fun c17 => ?_)
    · skip
      have e0 := lp_ge (n := pn) hv hp1 c17 hi8 (by omega)
      subst e0
      refine r_iload_n dX5_readAhead_39 rfl ?_
      exact r_iret dX5_readAhead_40 ⟨_, rfl, hF, i, rfl, ⟨by omega, q, hq, fun z => by omega⟩, fun _ => ⟨q, hq, hpc⟩⟩
    · skip
      have hi : i < pn := lp_lt (n := pn) hv hp1 c17 hi8 (by omega)
      refine r_aload_n dX5_readAhead_20 rfl ?_
      refine r_aload_n dX5_readAhead_21 rfl ?_
      refine r_getR flX5_36_4 rfl (hs1.lt (by decide)) (hs1.T 1 rfl) (hs1.R 1 0 rfl) dX5_readAhead_22 ?_
      refine r_iload_n dX5_readAhead_25 rfl ?_
      refine r_ial (hs1.T 2 rfl) (hs1.lt (by decide)) (ix_nI (by omega) (by decide)) dX5_readAhead_26 ?_
      refine r_cV1i cvX5_39 (kX5_takes g M1 hs1 q (psR_PW hq) hpc (mI M1 2 i) (by rw [e2, hpg i hi]; exact (hbd i hi).1) (by rw [e2, hpg i hi]; exact (hbd i hi).2)) (hs1.lt (by decide)) (hs1.T 3 rfl) ⟨Nat.le_of_ble_eq_true rfl, Nat.le_of_ble_eq_true rfl⟩ (Nat.le_of_ble_eq_true rfl) ⟨Nat.le_of_ble_eq_true rfl, Nat.le_of_ble_eq_true rfl⟩ dX5_readAhead_27 (fun r27 M27 h27 => ?_)
      obtain ⟨hF2, h27⟩ := h27
      rw [e2, hpg i hi] at h27
      refine r_if_eq 39 dX5_readAhead_30 (by decide) (fun c30 => ?_) (fun c30 => ?_)
      · skip
        have hno := (h27.resolve_left (fun ⟨_, _, z, _⟩ => absurd (z.symm.trans c30) (by decide))).1
        refine r_iload_n dX5_readAhead_39 rfl ?_
        exact r_iret dX5_readAhead_40 ⟨_, rfl, hF.tr hF2, i, rfl, ⟨by omega, q, hq, fun _ => hno⟩, fun z => by omega⟩
      · skip
        obtain ⟨q', hq', -, hpc'⟩ := h27.resolve_right (fun z => c30 z.2)
        refine r_iinc dX5_readAhead_33 rfl rfl rfl ?_
        refine r_goto 12 dX5_readAhead_36 (by decide) ?_
        exact r_lv (lvSc rfl (lvSc rfl (lvSc rfl lvS0))) (ih (i + 1) _ _ q' (by omega) (by omega) (nI_inc rfl) (hF.tr hF2) (psR_s hq hq') hpc')
set_option maxHeartbeats 4000000 in
set_option maxRecDepth 100000 in
theorem kX5_readAhead (g : Gx) (M : Mm) (hs : St M) (pg : Rw) (pn : Nat) (hpn : mI M 1 1 = nI pn) (h40 : pn ≤ 40) (hpg : ∀ k, k < pn → mI M 2 k = pg k) (hbd : ∀ k, k < pn → 0 ≤ pg k ∧ pg k ≤ 255) : Ct g yX5_readAhead cX5_readAhead 3 (Option.some FieldType.int) rmX5_readAhead [.ref (g.1 + 3), .ref (g.1 + 1)] M (pI fun r M' => Fr [3, 4, 5, 6, 7] [] M M' ∧ ∃ k, r = nI k ∧ flP pg pn k ∧ (k = pn → ∃ q, psR pg pn = some q ∧ PC M' q)) := by
  refine Ct.of rfl (Nat.le_of_ble_eq_true rfl) (fun x => ?_)
  refine r_aload_n dX5_readAhead_0 rfl ?_
  refine r_iconst (v := 0) dX5_readAhead_1 (by decide) ?_
  refine r_putI fpX5_24_5 rfl (hs.lt (by decide)) (hs.T 3 rfl) rfl rfl dX5_readAhead_2 ?_
  refine r_aload_n dX5_readAhead_5 rfl ?_
  refine r_iconst (v := 0) dX5_readAhead_6 (by decide) ?_
  refine r_putI fpX5_28_5 rfl (hs.lt (by decide)) (hs.T 3 rfl) rfl rfl dX5_readAhead_7 ?_
  refine r_iconst (v := 0) dX5_readAhead_10 (by decide) ?_
  refine r_istore_n dX5_readAhead_11 (by decide) rfl ?_
  exact r_lv (lvSc rfl (lvSc rfl (lvSc rfl lvS0))) (lp_read g x M hs pg pn hpn h40 hpg hbd (pn + 1) 0 0 _ (0, 0, fun _ => 0) (by omega) (by omega) rfl ((Fr_s1 (by simp)).sI (by simp)) rfl ⟨by rw [mI_sI, va_up_self]; rfl, by rw [mI_sI, va_up_ne _ _ (by decide), mI_sI, va_up_self]; rfl, fun i c hc hl => absurd hl (Nat.not_lt_zero _)⟩)
def rmX8_fault : Room := { frames := 5, cells := 0, slots := 0, locals := 105 }
set_option maxHeartbeats 4000000 in
set_option maxRecDepth 100000 in
theorem kX8_fault (g : Gx) (M : Mm) (hs : St M) (pg : Rw) (pn : Nat) (hpn : mI M 1 1 = nI pn) (h40 : pn ≤ 40) (hpg : ∀ k, k < pn → mI M 2 k = pg k) (hbd : ∀ k, k < pn → 0 ≤ pg k ∧ pg k ≤ 255) : Ct g yX8_fault cX8_fault 1 (Option.some FieldType.int) rmX8_fault [.ref (g.1 + 0)] M (pI fun r M' => Fr [3, 4, 5, 6, 7] [] M M' ∧ ∃ k, r = nI k ∧ flP pg pn k ∧ (k = pn → ∃ q, psR pg pn = some q ∧ PC M' q)) := by
  refine Ct.of rfl (Nat.le_of_ble_eq_true rfl) (fun x => ?_)
  refine r_aload_n dX8_fault_0 rfl ?_
  refine r_getR flX8_19_8 rfl (hs.lt (by decide)) (hs.T 0 rfl) (hs.R 0 1 rfl) dX8_fault_1 ?_
  refine r_aload_n dX8_fault_4 rfl ?_
  refine r_getR flX8_12_8 rfl (hs.lt (by decide)) (hs.T 0 rfl) (hs.R 0 0 rfl) dX8_fault_5 ?_
  refine r_cV1i cvX8_99 (kX5_readAhead g M hs pg pn hpn h40 hpg hbd) (hs.lt (by decide)) (hs.T 3 rfl) ⟨Nat.le_of_ble_eq_true rfl, Nat.le_of_ble_eq_true rfl⟩ (Nat.le_of_ble_eq_true rfl) ⟨Nat.le_of_ble_eq_true rfl, Nat.le_of_ble_eq_true rfl⟩ dX8_fault_8 (fun r8 M8 h8 => ?_)
  exact r_iret dX8_fault_11 ⟨_, rfl, h8⟩
