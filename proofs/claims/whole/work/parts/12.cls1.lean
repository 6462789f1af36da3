def rmX8_isHouse : Room := { frames := 0, cells := 0, slots := 0, locals := 0 }
set_option maxHeartbeats 4000000 in
set_option maxRecDepth 100000 in
theorem kX8_isHouse (g : Gx) (M : Mm) (h : Int32) : Ct g yX8_isHouse cX8_isHouse 1 (Option.some FieldType.boolean) rmX8_isHouse [.int h] M (pI fun r M' => M' = M ∧ r = (if 0 ≤ h ∧ h < 8 then 1 else 0)) := by
  refine Ct.of rfl (Nat.le_of_ble_eq_true rfl) (fun x => ?_)
  refine r_iload_n dX8_isHouse_0 rfl ?_
  refine r_if_lt 14 dX8_isHouse_1 (by decide) (fun c1 => ?_) (fun c1 => ?_)
  · skip
    refine r_iconst (v := 0) dX8_isHouse_14 (by decide) ?_
    exact r_zret (nar_bool (by simp)) dX8_isHouse_15 ⟨_, rfl, rfl, by grind⟩
  · skip
    refine r_iload_n dX8_isHouse_4 rfl ?_
    refine r_bipush (v := 8) dX8_isHouse_5 (by decide) ?_
    refine r_icmp_ge 14 dX8_isHouse_7 (by decide) (fun c7 => ?_) (fun c7 => ?_)
    · skip
      refine r_iconst (v := 0) dX8_isHouse_14 (by decide) ?_
      exact r_zret (nar_bool (by simp)) dX8_isHouse_15 ⟨_, rfl, rfl, by grind⟩
    · skip
      refine r_iconst (v := 1) dX8_isHouse_10 (by decide) ?_
      refine r_goto 15 dX8_isHouse_11 (by decide) ?_
      exact r_zret (nar_bool (by simp)) dX8_isHouse_15 ⟨_, rfl, rfl, by grind⟩
def rmX8_isThief : Room := { frames := 0, cells := 0, slots := 0, locals := 0 }
set_option maxHeartbeats 4000000 in
set_option maxRecDepth 100000 in
theorem kX8_isThief (g : Gx) (M : Mm) (hs : St M) (t : Int32) : Ct g yX8_isThief cX8_isThief 2 (Option.some FieldType.boolean) rmX8_isThief [.ref (g.1 + 0), .int t] M (pI fun r M' => M' = M ∧ r = (if 0 ≤ t ∧ t < mI M 0 12 then 1 else 0)) := by
  refine Ct.of rfl (Nat.le_of_ble_eq_true rfl) (fun x => ?_)
  refine r_iload_n dX8_isThief_0 rfl ?_
  refine r_if_lt 16 dX8_isThief_1 (by decide) (fun c1 => ?_) (fun c1 => ?_)
  · skip
    refine r_iconst (v := 0) dX8_isThief_16 (by decide) ?_
    exact r_zret (nar_bool (by simp)) dX8_isThief_17 ⟨_, rfl, rfl, by grind⟩
  · skip
    refine r_iload_n dX8_isThief_4 rfl ?_
    refine r_aload_n dX8_isThief_5 rfl ?_
    refine r_getI flX8_62_8 rfl (hs.lt (by decide)) (hs.T 0 rfl) dX8_isThief_6 ?_
    refine r_icmp_ge 16 dX8_isThief_9 (by decide) (fun c9 => ?_) (fun c9 => ?_)
    · skip
      refine r_iconst (v := 0) dX8_isThief_16 (by decide) ?_
      exact r_zret (nar_bool (by simp)) dX8_isThief_17 ⟨_, rfl, rfl, by grind⟩
    · skip
      refine r_iconst (v := 1) dX8_isThief_12 (by decide) ?_
      refine r_goto 17 dX8_isThief_13 (by decide) ?_
      exact r_zret (nar_bool (by simp)) dX8_isThief_17 ⟨_, rfl, rfl, by grind⟩
def rmX8_isSpoon : Room := { frames := 0, cells := 0, slots := 0, locals := 0 }
set_option maxHeartbeats 4000000 in
set_option maxRecDepth 100000 in
theorem kX8_isSpoon (g : Gx) (M : Mm) (hs : St M) (t : Int32) : Ct g yX8_isSpoon cX8_isSpoon 2 (Option.some FieldType.boolean) rmX8_isSpoon [.ref (g.1 + 0), .int t] M (pI fun r M' => M' = M ∧ r = (if 0 ≤ t ∧ t < mI M 0 13 then 1 else 0)) := by
  refine Ct.of rfl (Nat.le_of_ble_eq_true rfl) (fun x => ?_)
  refine r_iload_n dX8_isSpoon_0 rfl ?_
  refine r_if_lt 16 dX8_isSpoon_1 (by decide) (fun c1 => ?_) (fun c1 => ?_)
  · skip
    refine r_iconst (v := 0) dX8_isSpoon_16 (by decide) ?_
    exact r_zret (nar_bool (by simp)) dX8_isSpoon_17 ⟨_, rfl, rfl, by grind⟩
  · skip
    refine r_iload_n dX8_isSpoon_4 rfl ?_
    refine r_aload_n dX8_isSpoon_5 rfl ?_
    refine r_getI flX8_66_8 rfl (hs.lt (by decide)) (hs.T 0 rfl) dX8_isSpoon_6 ?_
    refine r_icmp_ge 16 dX8_isSpoon_9 (by decide) (fun c9 => ?_) (fun c9 => ?_)
    · skip
      refine r_iconst (v := 0) dX8_isSpoon_16 (by decide) ?_
      exact r_zret (nar_bool (by simp)) dX8_isSpoon_17 ⟨_, rfl, rfl, by grind⟩
    · skip
      refine r_iconst (v := 1) dX8_isSpoon_12 (by decide) ?_
      refine r_goto 17 dX8_isSpoon_13 (by decide) ?_
      exact r_zret (nar_bool (by simp)) dX8_isSpoon_17 ⟨_, rfl, rfl, by grind⟩
def rmX8_asNumber : Room := { frames := 0, cells := 0, slots := 0, locals := 0 }
set_option maxHeartbeats 4000000 in
set_option maxRecDepth 100000 in
theorem kX8_asNumber (g : Gx) (M : Mm) (h : Int32) : Ct g yX8_asNumber cX8_asNumber 1 (Option.some FieldType.int) rmX8_asNumber [.int h] M (pI fun r M' => M' = M ∧ r = (if h = 0 then 0 else 1)) := by
  refine Ct.of rfl (Nat.le_of_ble_eq_true rfl) (fun x => ?_)
  refine r_iload_n dX8_asNumber_0 rfl ?_
  refine r_if_eq 8 dX8_asNumber_1 (by decide) (fun c1 => ?_) (fun c1 => ?_)
  · skip
    refine r_iconst (v := 0) dX8_asNumber_8 (by decide) ?_
    exact r_iret dX8_asNumber_9 ⟨_, rfl, rfl, by grind⟩
  · skip
    refine r_iconst (v := 1) dX8_asNumber_4 (by decide) ?_
    refine r_goto 9 dX8_asNumber_5 (by decide) ?_
    exact r_iret dX8_asNumber_9 ⟨_, rfl, rfl, by grind⟩
def rmX8_byteOf : Room := { frames := 0, cells := 0, slots := 0, locals := 0 }
set_option maxHeartbeats 4000000 in
set_option maxRecDepth 100000 in
theorem kX8_byteOf (g : Gx) (M : Mm) (v : Int64) (i : Int32) : Ct g yX8_byteOf cX8_byteOf 3 (Option.some FieldType.int) rmX8_byteOf [.long v, .int i] M (pI fun r M' => M' = M ∧ r = ((v.toUInt64 >>> ((8 * i).toInt64.toUInt64 &&& Int64.toUInt64 63)).toInt64.toInt32 &&& 255)) := by
  refine Ct.of rfl (Nat.le_of_ble_eq_true rfl) (fun x => ?_)
  refine r_lload_n dX8_byteOf_0 rfl ?_
  refine r_bipush (v := 8) dX8_byteOf_1 (by decide) ?_
  refine r_iload_n dX8_byteOf_3 rfl ?_
  refine r_imul dX8_byteOf_4 ?_
  refine r_lushr dX8_byteOf_5 ?_
  refine r_l2i dX8_byteOf_6 ?_
  refine r_sipush (v := 255) dX8_byteOf_7 (by decide) ?_
  refine r_iand dX8_byteOf_10 ?_
  exact r_iret dX8_byteOf_11 ⟨_, rfl, rfl, rfl⟩
def rmX8_nextSeed : Room := { frames := 0, cells := 0, slots := 0, locals := 0 }
set_option maxHeartbeats 4000000 in
set_option maxRecDepth 100000 in
theorem kX8_nextSeed (g : Gx) (M : Mm) (v : Int32) : Ct g yX8_nextSeed cX8_nextSeed 1 (Option.some FieldType.int) rmX8_nextSeed [.int v] M (pI fun r M' => M' = M ∧ r = ((1103515245 * v.toInt64 + 12345) &&& 2147483647).toInt32) := by
  refine Ct.of rfl (Nat.le_of_ble_eq_true rfl) (fun x => ?_)
  refine r_ldc2_w (v := 1103515245) dX8_nextSeed_0 tw575 ?_
  refine r_iload_n dX8_nextSeed_3 rfl ?_
  refine r_i2l dX8_nextSeed_4 ?_
  refine r_lmul dX8_nextSeed_5 ?_
  refine r_ldc2_w (v := 12345) dX8_nextSeed_6 tw576 ?_
  refine r_ladd dX8_nextSeed_9 ?_
  refine r_ldc2_w (v := 2147483647) dX8_nextSeed_10 tw577 ?_
  refine r_land dX8_nextSeed_13 ?_
  refine r_l2i dX8_nextSeed_14 ?_
  exact r_iret dX8_nextSeed_15 ⟨_, rfl, rfl, rfl⟩
def rmX8_drawOfTen : Room := { frames := 0, cells := 0, slots := 0, locals := 0 }
set_option maxHeartbeats 4000000 in
set_option maxRecDepth 100000 in
theorem kX8_drawOfTen (g : Gx) (M : Mm) (v : Int32) : Ct g yX8_drawOfTen cX8_drawOfTen 1 (Option.some FieldType.int) rmX8_drawOfTen [.int v] M (pI fun r M' => M' = M ∧ r = (v / 65536 - v / 65536 / 10 * 10)) := by
  refine Ct.of rfl (Nat.le_of_ble_eq_true rfl) (fun x => ?_)
  refine r_iload_n dX8_drawOfTen_0 rfl ?_
  refine r_ldc_w (v := 65536) dX8_drawOfTen_1 tw581 ?_
  refine r_idiv dX8_drawOfTen_4 (by decide) ?_
  refine r_bipush (v := 10) dX8_drawOfTen_5 (by decide) ?_
  refine r_irem dX8_drawOfTen_7 (by decide) ?_
  exact r_iret dX8_drawOfTen_8 ⟨_, rfl, rfl, rfl⟩
def rmX8_with : Room := { frames := 0, cells := 0, slots := 0, locals := 0 }
set_option maxHeartbeats 4000000 in
set_option maxRecDepth 100000 in
theorem kX8_with (g : Gx) (M : Mm) (h v : Int64) : Ct g yX8_with cX8_with 4 (Option.some FieldType.long) rmX8_with [.long h, .long v] M (pL fun r M' => M' = M ∧ r = 31 * h + v) := by
  refine Ct.of rfl (Nat.le_of_ble_eq_true rfl) (fun x => ?_)
  refine r_ldc2_w (v := 31) dX8_with_0 tw615 ?_
  refine r_lload_n dX8_with_3 rfl ?_
  refine r_lmul dX8_with_4 ?_
  refine r_lload_n dX8_with_5 rfl ?_
  refine r_ladd dX8_with_6 ?_
  exact r_lret dX8_with_7 ⟨_, rfl, rfl, rfl⟩
def rmX7_kind : Room := { frames := 0, cells := 0, slots := 0, locals := 0 }
set_option maxHeartbeats 4000000 in
set_option maxRecDepth 100000 in
theorem kX7_kind (g : Gx) (M : Mm) (a : Nat)  : Ct g yX7_kind cX7_kind 1 (Option.some FieldType.int) rmX7_kind [.ref (g.1 + a)] M (pI fun r M' => M' = M ∧ r = 0) := by
  refine Ct.of rfl (Nat.le_of_ble_eq_true rfl) (fun x => ?_)
  refine r_iconst (v := 0) dX7_kind_0 (by decide) ?_
  exact r_iret dX7_kind_1 ⟨_, rfl, rfl, by grind⟩
def rmX6_kind : Room := { frames := 0, cells := 0, slots := 0, locals := 0 }
set_option maxHeartbeats 4000000 in
set_option maxRecDepth 100000 in
theorem kX6_kind (g : Gx) (M : Mm) (a : Nat)  : Ct g yX6_kind cX6_kind 1 (Option.some FieldType.int) rmX6_kind [.ref (g.1 + a)] M (pI fun r M' => M' = M ∧ r = 1) := by
  refine Ct.of rfl (Nat.le_of_ble_eq_true rfl) (fun x => ?_)
  refine r_iconst (v := 1) dX6_kind_0 (by decide) ?_
  exact r_iret dX6_kind_1 ⟨_, rfl, rfl, by grind⟩
def rmX0_kind : Room := { frames := 0, cells := 0, slots := 0, locals := 0 }
set_option maxHeartbeats 4000000 in
set_option maxRecDepth 100000 in
theorem kX0_kind (g : Gx) (M : Mm) (a : Nat)  : Ct g yX0_kind cX0_kind 1 (Option.some FieldType.int) rmX0_kind [.ref (g.1 + a)] M (pI fun r M' => M' = M ∧ r = 2) := by
  refine Ct.of rfl (Nat.le_of_ble_eq_true rfl) (fun x => ?_)
  refine r_iconst (v := 2) dX0_kind_0 (by decide) ?_
  exact r_iret dX0_kind_1 ⟨_, rfl, rfl, by grind⟩
def rmX2_kind : Room := { frames := 0, cells := 0, slots := 0, locals := 0 }
set_option maxHeartbeats 4000000 in
set_option maxRecDepth 100000 in
theorem kX2_kind (g : Gx) (M : Mm) (a : Nat)  : Ct g yX2_kind cX2_kind 1 (Option.some FieldType.int) rmX2_kind [.ref (g.1 + a)] M (pI fun r M' => M' = M ∧ r = 3) := by
  refine Ct.of rfl (Nat.le_of_ble_eq_true rfl) (fun x => ?_)
  refine r_iconst (v := 3) dX2_kind_0 (by decide) ?_
  exact r_iret dX2_kind_1 ⟨_, rfl, rfl, by grind⟩
def rmX3_kind : Room := { frames := 0, cells := 0, slots := 0, locals := 0 }
set_option maxHeartbeats 4000000 in
set_option maxRecDepth 100000 in
theorem kX3_kind (g : Gx) (M : Mm) (a : Nat)  : Ct g yX3_kind cX3_kind 1 (Option.some FieldType.int) rmX3_kind [.ref (g.1 + a)] M (pI fun r M' => M' = M ∧ r = 4) := by
  refine Ct.of rfl (Nat.le_of_ble_eq_true rfl) (fun x => ?_)
  refine r_iconst (v := 4) dX3_kind_0 (by decide) ?_
  exact r_iret dX3_kind_1 ⟨_, rfl, rfl, by grind⟩
def rmX7_robs : Room := { frames := 0, cells := 0, slots := 0, locals := 0 }
set_option maxHeartbeats 4000000 in
set_option maxRecDepth 100000 in
theorem kX7_robs (g : Gx) (M : Mm) (a : Nat) (ha : a < mN M) (ht : isTh (mT M a)) (p : Int32) : Ct g yX7_robs cX7_robs 2 (Option.some FieldType.int) rmX7_robs [.ref (g.1 + a), .int p] M (pI fun r M' => M' = M ∧ r = (if p = 0 then mI M a 0 else mI M a 1)) := by
  refine Ct.of rfl (Nat.le_of_ble_eq_true rfl) (fun x => ?_)
  refine r_iload_n dX7_robs_0 rfl ?_
  refine r_if_eq 11 dX7_robs_1 (by decide) (fun c1 => ?_) (fun c1 => ?_)
  · skip
    refine r_aload_n dX7_robs_11 rfl ?_
    refine r_getTh flX7_7_7 flX7_7_6 flX7_7_0 flX7_7_2 flX7_7_3 (by decide) ha ht dX7_robs_12 ?_
    exact r_iret dX7_robs_15 ⟨_, rfl, rfl, by grind⟩
  · skip
    refine r_aload_n dX7_robs_4 rfl ?_
    refine r_getTh flX7_13_7 flX7_13_6 flX7_13_0 flX7_13_2 flX7_13_3 (by decide) ha ht dX7_robs_5 ?_
    refine r_goto 15 dX7_robs_8 (by decide) ?_
    exact r_iret dX7_robs_15 ⟨_, rfl, rfl, by grind⟩
def rmX7_isKeptOut : Room := { frames := 0, cells := 0, slots := 0, locals := 0 }
set_option maxHeartbeats 4000000 in
set_option maxRecDepth 100000 in
theorem kX7_isKeptOut (g : Gx) (M : Mm) (a : Nat) (p v : Int32) : Ct g yX7_isKeptOut cX7_isKeptOut 3 (Option.some FieldType.boolean) rmX7_isKeptOut [.ref (g.1 + a), .int p, .int v] M (pI fun r M' => M' = M ∧ r = (if ¬ p = 0 ∨ 0 < v then 1 else 0)) := by
  refine Ct.of rfl (Nat.le_of_ble_eq_true rfl) (fun x => ?_)
  refine r_iload_n dX7_isKeptOut_0 rfl ?_
  refine r_if_ne 8 dX7_isKeptOut_1 (by decide) (fun c1 => ?_) (fun c1 => ?_)
  · skip
    refine r_iconst (v := 1) dX7_isKeptOut_8 (by decide) ?_
    refine r_goto 13 dX7_isKeptOut_9 (by decide) ?_
    exact r_zret (nar_bool (by simp)) dX7_isKeptOut_13 ⟨_, rfl, rfl, by grind⟩
  · skip
    refine r_iload_n dX7_isKeptOut_4 rfl ?_
    refine r_if_le 12 dX7_isKeptOut_5 (by decide) (fun c5 => ?_) (fun c5 => ?_)
    · skip
      refine r_iconst (v := 0) dX7_isKeptOut_12 (by decide) ?_
      exact r_zret (nar_bool (by simp)) dX7_isKeptOut_13 ⟨_, rfl, rfl, by grind⟩
    · skip
      refine r_iconst (v := 1) dX7_isKeptOut_8 (by decide) ?_
      refine r_goto 13 dX7_isKeptOut_9 (by decide) ?_
      exact r_zret (nar_bool (by simp)) dX7_isKeptOut_13 ⟨_, rfl, rfl, by grind⟩
def rmX3_isKeptOut : Room := { frames := 0, cells := 0, slots := 0, locals := 0 }
set_option maxHeartbeats 4000000 in
set_option maxRecDepth 100000 in
theorem kX3_isKeptOut (g : Gx) (M : Mm) (a : Nat) (p v : Int32) (hp : p = 0 ∨ p = 1) : Ct g yX3_isKeptOut cX3_isKeptOut 3 (Option.some FieldType.boolean) rmX3_isKeptOut [.ref (g.1 + a), .int p, .int v] M (pI fun r M' => M' = M ∧ r = p) := by
  refine Ct.of rfl (Nat.le_of_ble_eq_true rfl) (fun x => ?_)
  refine r_iload_n dX3_isKeptOut_0 rfl ?_
  exact r_zret (nar_bool hp) dX3_isKeptOut_1 ⟨_, rfl, rfl, rfl⟩
def rmX7_mostTaken : Room := { frames := 0, cells := 0, slots := 0, locals := 0 }
set_option maxHeartbeats 4000000 in
set_option maxRecDepth 100000 in
theorem kX7_mostTaken (g : Gx) (M : Mm) (a : Nat)  : Ct g yX7_mostTaken cX7_mostTaken 1 (Option.some FieldType.int) rmX7_mostTaken [.ref (g.1 + a)] M (pI fun r M' => M' = M ∧ r = 1) := by
  refine Ct.of rfl (Nat.le_of_ble_eq_true rfl) (fun x => ?_)
  refine r_iconst (v := 1) dX7_mostTaken_0 (by decide) ?_
  exact r_iret dX7_mostTaken_1 ⟨_, rfl, rfl, by grind⟩
def rmX6_mostTaken : Room := { frames := 0, cells := 0, slots := 0, locals := 0 }
set_option maxHeartbeats 4000000 in
set_option maxRecDepth 100000 in
theorem kX6_mostTaken (g : Gx) (M : Mm) (a : Nat)  : Ct g yX6_mostTaken cX6_mostTaken 1 (Option.some FieldType.int) rmX6_mostTaken [.ref (g.1 + a)] M (pI fun r M' => M' = M ∧ r = 2) := by
  refine Ct.of rfl (Nat.le_of_ble_eq_true rfl) (fun x => ?_)
  refine r_iconst (v := 2) dX6_mostTaken_0 (by decide) ?_
  exact r_iret dX6_mostTaken_1 ⟨_, rfl, rfl, by grind⟩
def rmX2_mostTaken : Room := { frames := 0, cells := 0, slots := 0, locals := 0 }
set_option maxHeartbeats 4000000 in
set_option maxRecDepth 100000 in
theorem kX2_mostTaken (g : Gx) (M : Mm) (a : Nat)  : Ct g yX2_mostTaken cX2_mostTaken 1 (Option.some FieldType.int) rmX2_mostTaken [.ref (g.1 + a)] M (pI fun r M' => M' = M ∧ r = 0) := by
  refine Ct.of rfl (Nat.le_of_ble_eq_true rfl) (fun x => ?_)
  refine r_iconst (v := 0) dX2_mostTaken_0 (by decide) ?_
  exact r_iret dX2_mostTaken_1 ⟨_, rfl, rfl, by grind⟩
def rmX7_likesBetter : Room := { frames := 0, cells := 0, slots := 0, locals := 0 }
set_option maxHeartbeats 4000000 in
set_option maxRecDepth 100000 in
theorem kX7_likesBetter (g : Gx) (M : Mm) (a : Nat) (u v : Int32) : Ct g yX7_likesBetter cX7_likesBetter 3 (Option.some FieldType.boolean) rmX7_likesBetter [.ref (g.1 + a), .int u, .int v] M (pI fun r M' => M' = M ∧ r = (if v < u then 1 else 0)) := by
  refine Ct.of rfl (Nat.le_of_ble_eq_true rfl) (fun x => ?_)
  refine r_iload_n dX7_likesBetter_0 rfl ?_
  refine r_iload_n dX7_likesBetter_1 rfl ?_
  refine r_icmp_le 9 dX7_likesBetter_2 (by decide) (fun c2 => ?_) (fun c2 => ?_)
  · skip
    refine r_iconst (v := 0) dX7_likesBetter_9 (by decide) ?_
    exact r_zret (nar_bool (by simp)) dX7_likesBetter_10 ⟨_, rfl, rfl, by grind⟩
  · skip
    refine r_iconst (v := 1) dX7_likesBetter_5 (by decide) ?_
    refine r_goto 10 dX7_likesBetter_6 (by decide) ?_
    exact r_zret (nar_bool (by simp)) dX7_likesBetter_10 ⟨_, rfl, rfl, by grind⟩
def rmX0_likesBetter : Room := { frames := 0, cells := 0, slots := 0, locals := 0 }
set_option maxHeartbeats 4000000 in
set_option maxRecDepth 100000 in
theorem kX0_likesBetter (g : Gx) (M : Mm) (a : Nat) (u v : Int32) : Ct g yX0_likesBetter cX0_likesBetter 3 (Option.some FieldType.boolean) rmX0_likesBetter [.ref (g.1 + a), .int u, .int v] M (pI fun r M' => M' = M ∧ r = (if u < v then 1 else 0)) := by
  refine Ct.of rfl (Nat.le_of_ble_eq_true rfl) (fun x => ?_)
  refine r_iload_n dX0_likesBetter_0 rfl ?_
  refine r_iload_n dX0_likesBetter_1 rfl ?_
  refine r_icmp_ge 9 dX0_likesBetter_2 (by decide) (fun c2 => ?_) (fun c2 => ?_)
  · skip
    refine r_iconst (v := 0) dX0_likesBetter_9 (by decide) ?_
    exact r_zret (nar_bool (by simp)) dX0_likesBetter_10 ⟨_, rfl, rfl, by grind⟩
  · skip
    refine r_iconst (v := 1) dX0_likesBetter_5 (by decide) ?_
    refine r_goto 10 dX0_likesBetter_6 (by decide) ?_
    exact r_zret (nar_bool (by simp)) dX0_likesBetter_10 ⟨_, rfl, rfl, by grind⟩
section Disp
variable {x : Cx} {g : Gx} {y : MethodName} {cc : ByteArray} {nL : Nat} {ret : Option FieldType} {R : Room} {Q : State → Prop} {k sl : Nat} {M : Mm} {pc : Nat} {lv : Lv} {rest : List Value}
set_option maxHeartbeats 4000000 in
theorem r_v_kind {a : Nat} (hy : y.cls = RX8) (ha : a < mN M) (ht : isTh (mT M a)) (hR : 1 ≤ R.frames ∧ 20 ≤ R.locals) (hr : (rest.map fun v => v.category).sum ≤ 8) (hc : k ≤ R.cells ∧ sl ≤ R.slots) (d : decode cc pc = .ok (.invokevirtual 137, 3)) (kk : Vj x g y cc nL ret R Q k sl M (pc + 3) lv (.int (nI (kiS (mT M a))) :: rest)) : Vj x g y cc nL ret R Q k sl M pc lv (.ref (g.1 + a) :: rest) := by
  rcases ht with h | h | h | h | h
  · refine r_cU0i (by rw [hy]; exact cuX8_137_7) (kX7_kind g M a ) ha h ⟨by show 0 + 1 ≤ _; omega, by show 8 + (1 + 11) + 0 ≤ _; omega⟩ hr hc d (fun r M' hq => ?_)
    obtain ⟨rfl, rfl⟩ := hq; rw [h] at kk; exact kk
  · refine r_cU0i (by rw [hy]; exact cuX8_137_6) (kX6_kind g M a ) ha h ⟨by show 0 + 1 ≤ _; omega, by show 8 + (1 + 11) + 0 ≤ _; omega⟩ hr hc d (fun r M' hq => ?_)
    obtain ⟨rfl, rfl⟩ := hq; rw [h] at kk; exact kk
  · refine r_cU0i (by rw [hy]; exact cuX8_137_0) (kX0_kind g M a ) ha h ⟨by show 0 + 1 ≤ _; omega, by show 8 + (1 + 11) + 0 ≤ _; omega⟩ hr hc d (fun r M' hq => ?_)
    obtain ⟨rfl, rfl⟩ := hq; rw [h] at kk; exact kk
  · refine r_cU0i (by rw [hy]; exact cuX8_137_2) (kX2_kind g M a ) ha h ⟨by show 0 + 1 ≤ _; omega, by show 8 + (1 + 11) + 0 ≤ _; omega⟩ hr hc d (fun r M' hq => ?_)
    obtain ⟨rfl, rfl⟩ := hq; rw [h] at kk; exact kk
  · refine r_cU0i (by rw [hy]; exact cuX8_137_3) (kX3_kind g M a ) ha h ⟨by show 0 + 1 ≤ _; omega, by show 8 + (1 + 11) + 0 ≤ _; omega⟩ hr hc d (fun r M' hq => ?_)
    obtain ⟨rfl, rfl⟩ := hq; rw [h] at kk; exact kk
set_option maxHeartbeats 4000000 in
theorem r_v_robs {a : Nat} {p : Int32} (hy : y.cls = RX8) (ha : a < mN M) (ht : isTh (mT M a)) (hR : 1 ≤ R.frames ∧ 21 ≤ R.locals) (hr : (rest.map fun v => v.category).sum ≤ 8) (hc : k ≤ R.cells ∧ sl ≤ R.slots) (d : decode cc pc = .ok (.invokevirtual 287, 3)) (kk : Vj x g y cc nL ret R Q k sl M (pc + 3) lv (.int (if p = 0 then mI M a 0 else mI M a 1) :: rest)) : Vj x g y cc nL ret R Q k sl M pc lv (.int p :: .ref (g.1 + a) :: rest) := by
  rcases ht with h | h | h | h | h
  · refine r_cU1i (by rw [hy]; exact cuX8_287_7) (kX7_robs g M a ha (by rw [h]; unfold isTh; simp) p) ha h ⟨by show 0 + 1 ≤ _; omega, by show 8 + (2 + 11) + 0 ≤ _; omega⟩ hr hc d (fun r M' hq => ?_)
    obtain ⟨rfl, rfl⟩ := hq; exact kk
  · refine r_cU1i (by rw [hy]; exact cuX8_287_6) (kX7_robs g M a ha (by rw [h]; unfold isTh; simp) p) ha h ⟨by show 0 + 1 ≤ _; omega, by show 8 + (2 + 11) + 0 ≤ _; omega⟩ hr hc d (fun r M' hq => ?_)
    obtain ⟨rfl, rfl⟩ := hq; exact kk
  · refine r_cU1i (by rw [hy]; exact cuX8_287_0) (kX7_robs g M a ha (by rw [h]; unfold isTh; simp) p) ha h ⟨by show 0 + 1 ≤ _; omega, by show 8 + (2 + 11) + 0 ≤ _; omega⟩ hr hc d (fun r M' hq => ?_)
    obtain ⟨rfl, rfl⟩ := hq; exact kk
  · refine r_cU1i (by rw [hy]; exact cuX8_287_2) (kX7_robs g M a ha (by rw [h]; unfold isTh; simp) p) ha h ⟨by show 0 + 1 ≤ _; omega, by show 8 + (2 + 11) + 0 ≤ _; omega⟩ hr hc d (fun r M' hq => ?_)
    obtain ⟨rfl, rfl⟩ := hq; exact kk
  · refine r_cU1i (by rw [hy]; exact cuX8_287_3) (kX7_robs g M a ha (by rw [h]; unfold isTh; simp) p) ha h ⟨by show 0 + 1 ≤ _; omega, by show 8 + (2 + 11) + 0 ≤ _; omega⟩ hr hc d (fun r M' hq => ?_)
    obtain ⟨rfl, rfl⟩ := hq; exact kk
set_option maxHeartbeats 4000000 in
theorem r_v_isKeptOut {a : Nat} {p v : Int32} (hy : y.cls = RX8) (ha : a < mN M) (ht : isTh (mT M a)) (hp : p = 0 ∨ p = 1) (hR : 1 ≤ R.frames ∧ 22 ≤ R.locals) (hr : (rest.map fun v => v.category).sum ≤ 8) (hc : k ≤ R.cells ∧ sl ≤ R.slots) (d : decode cc pc = .ok (.invokevirtual 290, 3)) (kk : ∀ r : Int32, (r = 1 ∧ outF (kiS (mT M a)) p v) ∨ (r = 0 ∧ ¬ outF (kiS (mT M a)) p v) → Vj x g y cc nL ret R Q k sl M (pc + 3) lv (.int r :: rest)) : Vj x g y cc nL ret R Q k sl M pc lv (.int v :: .int p :: .ref (g.1 + a) :: rest) := by
  rcases ht with h | h | h | h | h
  · refine r_cU2i (by rw [hy]; exact cuX8_290_7) (kX7_isKeptOut g M a p v) ha h ⟨by show 0 + 1 ≤ _; omega, by show 8 + (3 + 11) + 0 ≤ _; omega⟩ hr hc d (fun r M' hq => ?_)
    obtain ⟨rfl, rfl⟩ := hq
    refine kk _ ?_
    rw [h]; unfold outF; simp only [kiS, thK]; by_cases e1 : p = 0 <;> by_cases e2 : 0 < v <;> simp [e1, e2]
  · refine r_cU2i (by rw [hy]; exact cuX8_290_6) (kX7_isKeptOut g M a p v) ha h ⟨by show 0 + 1 ≤ _; omega, by show 8 + (3 + 11) + 0 ≤ _; omega⟩ hr hc d (fun r M' hq => ?_)
    obtain ⟨rfl, rfl⟩ := hq
    refine kk _ ?_
    rw [h]; unfold outF; simp only [kiS, thK]; by_cases e1 : p = 0 <;> by_cases e2 : 0 < v <;> simp [e1, e2]
  · refine r_cU2i (by rw [hy]; exact cuX8_290_0) (kX7_isKeptOut g M a p v) ha h ⟨by show 0 + 1 ≤ _; omega, by show 8 + (3 + 11) + 0 ≤ _; omega⟩ hr hc d (fun r M' hq => ?_)
    obtain ⟨rfl, rfl⟩ := hq
    refine kk _ ?_
    rw [h]; unfold outF; simp only [kiS, thK]; by_cases e1 : p = 0 <;> by_cases e2 : 0 < v <;> simp [e1, e2]
  · refine r_cU2i (by rw [hy]; exact cuX8_290_2) (kX7_isKeptOut g M a p v) ha h ⟨by show 0 + 1 ≤ _; omega, by show 8 + (3 + 11) + 0 ≤ _; omega⟩ hr hc d (fun r M' hq => ?_)
    obtain ⟨rfl, rfl⟩ := hq
    refine kk _ ?_
    rw [h]; unfold outF; simp only [kiS, thK]; by_cases e1 : p = 0 <;> by_cases e2 : 0 < v <;> simp [e1, e2]
  · refine r_cU2i (by rw [hy]; exact cuX8_290_3) (kX3_isKeptOut g M a p v hp) ha h ⟨by show 0 + 1 ≤ _; omega, by show 8 + (3 + 11) + 0 ≤ _; omega⟩ hr hc d (fun r M' hq => ?_)
    obtain ⟨rfl, rfl⟩ := hq
    refine kk _ ?_
    rw [h]; unfold outF; simp only [kiS, thK]; rcases hp with e | e <;> rw [e] <;> simp
set_option maxHeartbeats 4000000 in
theorem r_v_mostTaken {a : Nat} (hy : y.cls = RX8) (ha : a < mN M) (ht : isTh (mT M a)) (hR : 1 ≤ R.frames ∧ 20 ≤ R.locals) (hr : (rest.map fun v => v.category).sum ≤ 8) (hc : k ≤ R.cells ∧ sl ≤ R.slots) (d : decode cc pc = .ok (.invokevirtual 294, 3)) (kk : Vj x g y cc nL ret R Q k sl M (pc + 3) lv (.int (nI (mostF (kiS (mT M a)))) :: rest)) : Vj x g y cc nL ret R Q k sl M pc lv (.ref (g.1 + a) :: rest) := by
  rcases ht with h | h | h | h | h
  · refine r_cU0i (by rw [hy]; exact cuX8_294_7) (kX7_mostTaken g M a ) ha h ⟨by show 0 + 1 ≤ _; omega, by show 8 + (1 + 11) + 0 ≤ _; omega⟩ hr hc d (fun r M' hq => ?_)
    obtain ⟨rfl, rfl⟩ := hq; rw [h] at kk; exact kk
  · refine r_cU0i (by rw [hy]; exact cuX8_294_6) (kX6_mostTaken g M a ) ha h ⟨by show 0 + 1 ≤ _; omega, by show 8 + (1 + 11) + 0 ≤ _; omega⟩ hr hc d (fun r M' hq => ?_)
    obtain ⟨rfl, rfl⟩ := hq; rw [h] at kk; exact kk
  · refine r_cU0i (by rw [hy]; exact cuX8_294_0) (kX7_mostTaken g M a ) ha h ⟨by show 0 + 1 ≤ _; omega, by show 8 + (1 + 11) + 0 ≤ _; omega⟩ hr hc d (fun r M' hq => ?_)
    obtain ⟨rfl, rfl⟩ := hq; rw [h] at kk; exact kk
  · refine r_cU0i (by rw [hy]; exact cuX8_294_2) (kX2_mostTaken g M a ) ha h ⟨by show 0 + 1 ≤ _; omega, by show 8 + (1 + 11) + 0 ≤ _; omega⟩ hr hc d (fun r M' hq => ?_)
    obtain ⟨rfl, rfl⟩ := hq; rw [h] at kk; exact kk
  · refine r_cU0i (by rw [hy]; exact cuX8_294_3) (kX6_mostTaken g M a ) ha h ⟨by show 0 + 1 ≤ _; omega, by show 8 + (1 + 11) + 0 ≤ _; omega⟩ hr hc d (fun r M' hq => ?_)
    obtain ⟨rfl, rfl⟩ := hq; rw [h] at kk; exact kk
set_option maxHeartbeats 4000000 in
theorem r_v_likesBetter {a : Nat} {u v : Int32} (hy : y.cls = RX8) (ha : a < mN M) (ht : isTh (mT M a)) (hR : 1 ≤ R.frames ∧ 22 ≤ R.locals) (hr : (rest.map fun v => v.category).sum ≤ 8) (hc : k ≤ R.cells ∧ sl ≤ R.slots) (d : decode cc pc = .ok (.invokevirtual 301, 3)) (kk : Vj x g y cc nL ret R Q k sl M (pc + 3) lv (.int (if likes (kiS (mT M a)) u v = true then 1 else 0) :: rest)) : Vj x g y cc nL ret R Q k sl M pc lv (.int v :: .int u :: .ref (g.1 + a) :: rest) := by
  rcases ht with h | h | h | h | h
  · refine r_cU2i (by rw [hy]; exact cuX8_301_7) (kX7_likesBetter g M a u v) ha h ⟨by show 0 + 1 ≤ _; omega, by show 8 + (3 + 11) + 0 ≤ _; omega⟩ hr hc d (fun r M' hq => ?_)
    obtain ⟨rfl, rfl⟩ := hq; rw [h] at kk; simp [likes, kiS, thK] at kk; exact kk
  · refine r_cU2i (by rw [hy]; exact cuX8_301_6) (kX7_likesBetter g M a u v) ha h ⟨by show 0 + 1 ≤ _; omega, by show 8 + (3 + 11) + 0 ≤ _; omega⟩ hr hc d (fun r M' hq => ?_)
    obtain ⟨rfl, rfl⟩ := hq; rw [h] at kk; simp [likes, kiS, thK] at kk; exact kk
  · refine r_cU2i (by rw [hy]; exact cuX8_301_0) (kX0_likesBetter g M a u v) ha h ⟨by show 0 + 1 ≤ _; omega, by show 8 + (3 + 11) + 0 ≤ _; omega⟩ hr hc d (fun r M' hq => ?_)
    obtain ⟨rfl, rfl⟩ := hq; rw [h] at kk; simp [likes, kiS, thK] at kk; exact kk
  · refine r_cU2i (by rw [hy]; exact cuX8_301_2) (kX7_likesBetter g M a u v) ha h ⟨by show 0 + 1 ≤ _; omega, by show 8 + (3 + 11) + 0 ≤ _; omega⟩ hr hc d (fun r M' hq => ?_)
    obtain ⟨rfl, rfl⟩ := hq; rw [h] at kk; simp [likes, kiS, thK] at kk; exact kk
  · refine r_cU2i (by rw [hy]; exact cuX8_301_3) (kX7_likesBetter g M a u v) ha h ⟨by show 0 + 1 ≤ _; omega, by show 8 + (3 + 11) + 0 ≤ _; omega⟩ hr hc d (fun r M' hq => ?_)
    obtain ⟨rfl, rfl⟩ := hq; rw [h] at kk; simp [likes, kiS, thK] at kk; exact kk
end Disp
