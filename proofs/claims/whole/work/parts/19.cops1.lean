def rmX8_worthIn : Room := { frames := 0, cells := 0, slots := 0, locals := 0 }
set_option maxHeartbeats 4000000 in
set_option maxRecDepth 100000 in
theorem lp_worthIn (g : Gx) (x : Cx) (M : Mm) (c : Nat) (hc : isC c) (hs : St M) (σ : Ab) (w : Wf σ) (V : CV1 σ M) (ps : Rw) (hps : ∀ s, s < zS σ → mI M (c + 1) s = ps s) (h : Int32) : ∀ (n : Nat) (i : Nat) (v b : Int32), i ≤ zS σ → zS σ - i < n → v = nI i → b = sumF (fun s => if ps s = h then zw σ s else 0) i → Vj x g yX8_worthIn cX8_worthIn 5 (Option.some FieldType.int) rmX8_worthIn (Qm x g rmX8_worthIn.cells rmX8_worthIn.slots (pI fun r M' => M' = M ∧ r = inH σ ps h)) 0 0 M 5 [(0, some (.ref (g.1 + 0))), (1, some (.ref (g.1 + c))), (2, some (.int h)), (3, some (.int b)), (4, some (.int v))] [] := by
  intro n
  induction n with
  | zero => intro i v b hiS hn hv hb; omega
  | succ n ih =>
    intro i v b hiS hn hv hb
    refine r_iload dX8_worthIn_5 rfl ?_
    refine r_aload_n dX8_worthIn_7 rfl ?_
    refine r_getI flX8_66_8 rfl (hs.lt (by decide)) (hs.T 0 rfl) dX8_worthIn_8 ?_
    refine r_icmp_ge 45 dX8_worthIn_11 (by decide) (fun c11 => ?_) (fun c11 => ?_)
    · skip
      rw [lp_ge (n := zS σ) hv V.2.1 c11 hiS (by have := w.2.1; omega)] at hb
      refine r_iload_n dX8_worthIn_45 rfl ?_
      exact r_iret dX8_worthIn_46 ⟨_, rfl, rfl, hb⟩
    · skip
      have hi : i < zS σ := lp_lt (n := zS σ) hv V.2.1 c11 hiS (by have := w.2.1; omega)
      have h8 : i < 8 := Nat.lt_of_lt_of_le hi w.2.1
      refine r_iload_n dX8_worthIn_14 rfl ?_
      refine r_dia (P := fun u => u = (if ps i = h then zw σ i else 0)) 37 (fun u hu => ?_) (fun hJ37 => ?_)
      · skip
        refine r_iadd dX8_worthIn_37 ?_
        refine r_istore_n dX8_worthIn_38 (by decide) rfl ?_
        refine r_iinc dX8_worthIn_39 rfl rfl rfl ?_
        refine r_goto 5 dX8_worthIn_42 (by decide) ?_
        exact r_lv (lvSc rfl (lvSc rfl (lvSc rfl (lvSc rfl (lvSc rfl lvS0))))) (ih (i + 1) _ _ (by omega) (by omega) (nI_inc hv) (by rw [sumF, hb, hu]))
      · skip
        refine r_aload_n dX8_worthIn_15 rfl ?_
        refine r_getR flX8_166_1 rfl (hs.cl0 hc) (hs.cT hc) (hs.cR0 hc) dX8_worthIn_16 ?_
        refine r_iload dX8_worthIn_19 rfl ?_
        refine r_ial (hs.cA0 hc) (hs.cl hc 1 (by decide)) (ix_of hv h8 (by decide)) dX8_worthIn_21 ?_
        refine r_iload_n dX8_worthIn_22 rfl ?_
        refine r_icmp_ne 36 dX8_worthIn_23 (by decide) (fun c23 => ?_) (fun c23 => ?_)
        · skip
          refine r_iconst (v := 0) dX8_worthIn_36 (by decide) ?_
          exact hJ37 _ (by rw [hps i hi] at c23; simp [c23, (V.2.2.2 i hi).1])
        · skip
          refine r_aload_n dX8_worthIn_26 rfl ?_
          refine r_getR flX8_29_8 rfl (hs.lt (by decide)) (hs.T 0 rfl) (hs.R 0 3 rfl) dX8_worthIn_27 ?_
          refine r_iload dX8_worthIn_30 rfl ?_
          refine r_ial (hs.T 9 rfl) (hs.lt (by decide)) (ix_of hv h8 (by decide)) dX8_worthIn_32 ?_
          refine r_goto 37 dX8_worthIn_33 (by decide) ?_
          exact hJ37 _ (by rw [hps i hi] at c23; simp [c23, (V.2.2.2 i hi).1])
set_option maxHeartbeats 4000000 in
set_option maxRecDepth 100000 in
theorem kX8_worthIn (g : Gx) (M : Mm) (c : Nat) (hc : isC c) (hs : St M) (σ : Ab) (w : Wf σ) (V : CV1 σ M) (ps : Rw) (hps : ∀ s, s < zS σ → mI M (c + 1) s = ps s) (h : Int32) : Ct g yX8_worthIn cX8_worthIn 5 (Option.some FieldType.int) rmX8_worthIn [.ref (g.1 + 0), .ref (g.1 + c), .int h] M (pI fun r M' => M' = M ∧ r = inH σ ps h) := by
  refine Ct.of rfl (Nat.le_of_ble_eq_true rfl) (fun x => ?_)
  refine r_iconst (v := 0) dX8_worthIn_0 (by decide) ?_
  refine r_istore_n dX8_worthIn_1 (by decide) rfl ?_
  refine r_iconst (v := 0) dX8_worthIn_2 (by decide) ?_
  refine r_istore dX8_worthIn_3 (by decide) rfl ?_
  exact r_lv (lvSc rfl (lvSc rfl (lvSc rfl (lvSc rfl (lvSc rfl lvS0))))) (lp_worthIn g x M c hc hs σ w V ps hps h (zS σ + 1) 0 0 0 (by omega) (by omega) rfl rfl)
def rmX8_worthAtHome : Room := { frames := 0, cells := 0, slots := 0, locals := 0 }
set_option maxHeartbeats 4000000 in
set_option maxRecDepth 100000 in
theorem lp_worthAtHome (g : Gx) (x : Cx) (M : Mm) (c : Nat) (hc : isC c) (hs : St M) (σ : Ab) (w : Wf σ) (V : CV1 σ M) (ps : Rw) (hps : ∀ s, s < zS σ → mI M (c + 1) s = ps s) : ∀ (n : Nat) (i : Nat) (v b : Int32), i ≤ zS σ → zS σ - i < n → v = nI i → b = sumF (fun s => if ps s = zo σ s then zw σ s else 0) i → Vj x g yX8_worthAtHome cX8_worthAtHome 4 (Option.some FieldType.int) rmX8_worthAtHome (Qm x g rmX8_worthAtHome.cells rmX8_worthAtHome.slots (pI fun r M' => M' = M ∧ r = homF σ ps)) 0 0 M 4 [(0, some (.ref (g.1 + 0))), (1, some (.ref (g.1 + c))), (2, some (.int b)), (3, some (.int v))] [] := by
  intro n
  induction n with
  | zero => intro i v b hiS hn hv hb; omega
  | succ n ih =>
    intro i v b hiS hn hv hb
    refine r_iload_n dX8_worthAtHome_4 rfl ?_
    refine r_aload_n dX8_worthAtHome_5 rfl ?_
    refine r_getI flX8_66_8 rfl (hs.lt (by decide)) (hs.T 0 rfl) dX8_worthAtHome_6 ?_
    refine r_icmp_ge 46 dX8_worthAtHome_9 (by decide) (fun c9 => ?_) (fun c9 => ?_)
    · skip
      rw [lp_ge (n := zS σ) hv V.2.1 c9 hiS (by have := w.2.1; omega)] at hb
      refine r_iload_n dX8_worthAtHome_46 rfl ?_
      exact r_iret dX8_worthAtHome_47 ⟨_, rfl, rfl, hb⟩
    · skip
      have hi : i < zS σ := lp_lt (n := zS σ) hv V.2.1 c9 hiS (by have := w.2.1; omega)
      have h8 : i < 8 := Nat.lt_of_lt_of_le hi w.2.1
      refine r_iload_n dX8_worthAtHome_12 rfl ?_
      refine r_dia (P := fun u => u = (if ps i = zo σ i then zw σ i else 0)) 38 (fun u hu => ?_) (fun hJ38 => ?_)
      · skip
        refine r_iadd dX8_worthAtHome_38 ?_
        refine r_istore_n dX8_worthAtHome_39 (by decide) rfl ?_
        refine r_iinc dX8_worthAtHome_40 rfl rfl rfl ?_
        refine r_goto 4 dX8_worthAtHome_43 (by decide) ?_
        exact r_lv (lvSc rfl (lvSc rfl (lvSc rfl (lvSc rfl lvS0)))) (ih (i + 1) _ _ (by omega) (by omega) (nI_inc hv) (by rw [sumF, hb, hu]))
      · skip
        refine r_aload_n dX8_worthAtHome_13 rfl ?_
        refine r_getR flX8_166_1 rfl (hs.cl0 hc) (hs.cT hc) (hs.cR0 hc) dX8_worthAtHome_14 ?_
        refine r_iload_n dX8_worthAtHome_17 rfl ?_
        refine r_ial (hs.cA0 hc) (hs.cl hc 1 (by decide)) (ix_of hv h8 (by decide)) dX8_worthAtHome_18 ?_
        refine r_aload_n dX8_worthAtHome_19 rfl ?_
        refine r_getR flX8_33_8 rfl (hs.lt (by decide)) (hs.T 0 rfl) (hs.R 0 4 rfl) dX8_worthAtHome_20 ?_
        refine r_iload_n dX8_worthAtHome_23 rfl ?_
        refine r_ial (hs.T 10 rfl) (hs.lt (by decide)) (ix_of hv h8 (by decide)) dX8_worthAtHome_24 ?_
        refine r_icmp_ne 37 dX8_worthAtHome_25 (by decide) (fun c25 => ?_) (fun c25 => ?_)
        · skip
          refine r_iconst (v := 0) dX8_worthAtHome_37 (by decide) ?_
          exact hJ38 _ (by rw [hps i hi, (V.2.2.2 i hi).2] at c25; simp [c25, (V.2.2.2 i hi).1])
        · skip
          refine r_aload_n dX8_worthAtHome_28 rfl ?_
          refine r_getR flX8_29_8 rfl (hs.lt (by decide)) (hs.T 0 rfl) (hs.R 0 3 rfl) dX8_worthAtHome_29 ?_
          refine r_iload_n dX8_worthAtHome_32 rfl ?_
          refine r_ial (hs.T 9 rfl) (hs.lt (by decide)) (ix_of hv h8 (by decide)) dX8_worthAtHome_33 ?_
          refine r_goto 38 dX8_worthAtHome_34 (by decide) ?_
          exact hJ38 _ (by rw [hps i hi, (V.2.2.2 i hi).2] at c25; simp [c25, (V.2.2.2 i hi).1])
set_option maxHeartbeats 4000000 in
set_option maxRecDepth 100000 in
theorem kX8_worthAtHome (g : Gx) (M : Mm) (c : Nat) (hc : isC c) (hs : St M) (σ : Ab) (w : Wf σ) (V : CV1 σ M) (ps : Rw) (hps : ∀ s, s < zS σ → mI M (c + 1) s = ps s) : Ct g yX8_worthAtHome cX8_worthAtHome 4 (Option.some FieldType.int) rmX8_worthAtHome [.ref (g.1 + 0), .ref (g.1 + c)] M (pI fun r M' => M' = M ∧ r = homF σ ps) := by
  refine Ct.of rfl (Nat.le_of_ble_eq_true rfl) (fun x => ?_)
  refine r_iconst (v := 0) dX8_worthAtHome_0 (by decide) ?_
  refine r_istore_n dX8_worthAtHome_1 (by decide) rfl ?_
  refine r_iconst (v := 0) dX8_worthAtHome_2 (by decide) ?_
  refine r_istore_n dX8_worthAtHome_3 (by decide) rfl ?_
  exact r_lv (lvSc rfl (lvSc rfl (lvSc rfl (lvSc rfl lvS0)))) (lp_worthAtHome g x M c hc hs σ w V ps hps (zS σ + 1) 0 0 0 (by omega) (by omega) rfl rfl)
def rmX8_spoonsAway : Room := { frames := 0, cells := 0, slots := 0, locals := 0 }
set_option maxHeartbeats 4000000 in
set_option maxRecDepth 100000 in
theorem lp_spoonsAway (g : Gx) (x : Cx) (M : Mm) (σ : Ab) (δ : Dy) (K : CA σ δ M) : ∀ (n : Nat) (i : Nat) (v b : Int32), i ≤ zS σ → zS σ - i < n → v = nI i → b = sumF (fun s => if yp δ s = zo σ s then 0 else 1) i → Vj x g yX8_spoonsAway cX8_spoonsAway 3 (Option.some FieldType.int) rmX8_spoonsAway (Qm x g rmX8_spoonsAway.cells rmX8_spoonsAway.slots (pI fun r M' => M' = M ∧ r = awaF σ (yp δ))) 0 0 M 4 [(0, some (.ref (g.1 + 0))), (1, some (.int b)), (2, some (.int v))] [] := by
  intro n
  induction n with
  | zero => intro i v b hiS hn hv hb; omega
  | succ n ih =>
    intro i v b hiS hn hv hb
    obtain ⟨hs, w, dw, V, D, D2, D3, D4, D5, D6⟩ := id K
    refine r_iload_n dX8_spoonsAway_4 rfl ?_
    refine r_aload_n dX8_spoonsAway_5 rfl ?_
    refine r_getI flX8_66_8 rfl (hs.lt (by decide)) (hs.T 0 rfl) dX8_spoonsAway_6 ?_
    refine r_icmp_ge 44 dX8_spoonsAway_9 (by decide) (fun c9 => ?_) (fun c9 => ?_)
    · skip
      rw [lp_ge (n := zS σ) hv V.2.1 c9 hiS (by have := w.2.1; omega)] at hb
      refine r_iload_n dX8_spoonsAway_44 rfl ?_
      exact r_iret dX8_spoonsAway_45 ⟨_, rfl, rfl, hb⟩
    · skip
      have hi : i < zS σ := lp_lt (n := zS σ) hv V.2.1 c9 hiS (by have := w.2.1; omega)
      have h8 : i < 8 := Nat.lt_of_lt_of_le hi w.2.1
      refine r_iload_n dX8_spoonsAway_12 rfl ?_
      refine r_dia (P := fun u => u = (if yp δ i = zo σ i then 0 else 1)) 36 (fun u hu => ?_) (fun hJ36 => ?_)
      · skip
        refine r_iadd dX8_spoonsAway_36 ?_
        refine r_istore_n dX8_spoonsAway_37 (by decide) rfl ?_
        refine r_iinc dX8_spoonsAway_38 rfl rfl rfl ?_
        refine r_goto 4 dX8_spoonsAway_41 (by decide) ?_
        exact r_lv (lvSc rfl (lvSc rfl (lvSc rfl lvS0))) (ih (i + 1) _ _ (by omega) (by omega) (nI_inc hv) (by rw [sumF, hb, hu]))
      · skip
        refine r_aload_n dX8_spoonsAway_13 rfl ?_
        refine r_getR flX8_39_8 rfl (hs.lt (by decide)) (hs.T 0 rfl) (hs.R 0 5 rfl) dX8_spoonsAway_14 ?_
        refine r_getR flX8_166_1 rfl (hs.lt (by decide)) (hs.T 11 rfl) (hs.R 11 0 rfl) dX8_spoonsAway_17 ?_
        refine r_iload_n dX8_spoonsAway_20 rfl ?_
        refine r_ial (hs.T 12 rfl) (hs.lt (by decide)) (ix_of hv h8 (by decide)) dX8_spoonsAway_21 ?_
        refine r_aload_n dX8_spoonsAway_22 rfl ?_
        refine r_getR flX8_33_8 rfl (hs.lt (by decide)) (hs.T 0 rfl) (hs.R 0 4 rfl) dX8_spoonsAway_23 ?_
        refine r_iload_n dX8_spoonsAway_26 rfl ?_
        refine r_ial (hs.T 10 rfl) (hs.lt (by decide)) (ix_of hv h8 (by decide)) dX8_spoonsAway_27 ?_
        refine r_icmp_eq 35 dX8_spoonsAway_28 (by decide) (fun c28 => ?_) (fun c28 => ?_)
        · skip
          refine r_iconst (v := 0) dX8_spoonsAway_35 (by decide) ?_
          exact hJ36 _ (by rw [show mI M 12 i = yp δ i from D.1 i hi, (V.2.2.2 i hi).2] at c28; simp [c28])
        · skip
          refine r_iconst (v := 1) dX8_spoonsAway_31 (by decide) ?_
          refine r_goto 36 dX8_spoonsAway_32 (by decide) ?_
          exact hJ36 _ (by rw [show mI M 12 i = yp δ i from D.1 i hi, (V.2.2.2 i hi).2] at c28; simp [c28])
set_option maxHeartbeats 4000000 in
set_option maxRecDepth 100000 in
theorem kX8_spoonsAway (g : Gx) (M : Mm) (σ : Ab) (δ : Dy) (K : CA σ δ M) : Ct g yX8_spoonsAway cX8_spoonsAway 3 (Option.some FieldType.int) rmX8_spoonsAway [.ref (g.1 + 0)] M (pI fun r M' => M' = M ∧ r = awaF σ (yp δ)) := by
  obtain ⟨hs, w, dw, V, D, D2, D3, D4, D5, D6⟩ := id K
  refine Ct.of rfl (Nat.le_of_ble_eq_true rfl) (fun x => ?_)
  refine r_iconst (v := 0) dX8_spoonsAway_0 (by decide) ?_
  refine r_istore_n dX8_spoonsAway_1 (by decide) rfl ?_
  refine r_iconst (v := 0) dX8_spoonsAway_2 (by decide) ?_
  refine r_istore_n dX8_spoonsAway_3 (by decide) rfl ?_
  exact r_lv (lvSc rfl (lvSc rfl (lvSc rfl lvS0))) (lp_spoonsAway g x M σ δ K (zS σ + 1) 0 0 0 (by omega) (by omega) rfl rfl)
def rmX8_owes : Room := { frames := 1, cells := 0, slots := 0, locals := 20 }
set_option maxHeartbeats 4000000 in
set_option maxRecDepth 100000 in
theorem lp_owes (g : Gx) (x : Cx) (M : Mm) (σ : Ab) (δ : Dy) (K : CA σ δ M) (p q : Int32) (hpq : (0 ≤ p ∧ p < 8) ∧ (0 ≤ q ∧ q < 8) ∧ ¬ p = q) : ∀ (n : Nat) (i : Nat) (v b : Int32), i ≤ zS σ → zS σ - i < n → v = nI i → b = sumF (fun s => if yp δ s = p ∧ zo σ s = q then zw σ s else 0) i → Vj x g yX8_owes cX8_owes 5 (Option.some FieldType.int) rmX8_owes (Qm x g rmX8_owes.cells rmX8_owes.slots (pI fun r M' => M' = M ∧ r = oweR σ δ p q)) 0 0 M 27 [(0, some (.ref (g.1 + 0))), (1, some (.int p)), (2, some (.int q)), (3, some (.int b)), (4, some (.int v))] [] := by
  intro n
  induction n with
  | zero => intro i v b hiS hn hv hb; omega
  | succ n ih =>
    intro i v b hiS hn hv hb
    obtain ⟨hs, w, dw, V, D, D2, D3, D4, D5, D6⟩ := id K
    refine r_iload dX8_owes_27 rfl ?_
    refine r_aload_n dX8_owes_29 rfl ?_
    refine r_getI flX8_66_8 rfl (hs.lt (by decide)) (hs.T 0 rfl) dX8_owes_30 ?_
    refine r_icmp_ge 81 dX8_owes_33 (by decide) (fun c33 => ?_) (fun c33 => ?_)
    · skip
      rw [lp_ge (n := zS σ) hv V.2.1 c33 hiS (by have := w.2.1; omega)] at hb
      refine r_iload_n dX8_owes_81 rfl ?_
      exact r_iret dX8_owes_82 ⟨_, rfl, rfl, by rw [oweR, if_pos hpq]; exact hb⟩
    · skip
      have hi : i < zS σ := lp_lt (n := zS σ) hv V.2.1 c33 hiS (by have := w.2.1; omega)
      have h8 : i < 8 := Nat.lt_of_lt_of_le hi w.2.1
      refine r_iload_n dX8_owes_36 rfl ?_
      refine r_dia (P := fun u => u = (if yp δ i = p ∧ zo σ i = q then zw σ i else 0)) 73 (fun u hu => ?_) (fun hJ73 => ?_)
      · skip
        refine r_iadd dX8_owes_73 ?_
        refine r_istore_n dX8_owes_74 (by decide) rfl ?_
        refine r_iinc dX8_owes_75 rfl rfl rfl ?_
        refine r_goto 27 dX8_owes_78 (by decide) ?_
        exact r_lv (lvSc rfl (lvSc rfl (lvSc rfl (lvSc rfl (lvSc rfl lvS0))))) (ih (i + 1) _ _ (by omega) (by omega) (nI_inc hv) (by rw [sumF, hb, hu]))
      · skip
        refine r_aload_n dX8_owes_37 rfl ?_
        refine r_getR flX8_39_8 rfl (hs.lt (by decide)) (hs.T 0 rfl) (hs.R 0 5 rfl) dX8_owes_38 ?_
        refine r_getR flX8_166_1 rfl (hs.lt (by decide)) (hs.T 11 rfl) (hs.R 11 0 rfl) dX8_owes_41 ?_
        refine r_iload dX8_owes_44 rfl ?_
        refine r_ial (hs.T 12 rfl) (hs.lt (by decide)) (ix_of hv h8 (by decide)) dX8_owes_46 ?_
        refine r_iload_n dX8_owes_47 rfl ?_
        refine r_icmp_ne 72 dX8_owes_48 (by decide) (fun c48 => ?_) (fun c48 => ?_)
        · skip
          refine r_iconst (v := 0) dX8_owes_72 (by decide) ?_
          exact hJ73 _ (by rw [← show mI M 12 i = yp δ i from D.1 i hi, ← (V.2.2.2 i hi).2, ← (V.2.2.2 i hi).1]; simp [*])
        · skip
          refine r_aload_n dX8_owes_51 rfl ?_
          refine r_getR flX8_33_8 rfl (hs.lt (by decide)) (hs.T 0 rfl) (hs.R 0 4 rfl) dX8_owes_52 ?_
          refine r_iload dX8_owes_55 rfl ?_
          refine r_ial (hs.T 10 rfl) (hs.lt (by decide)) (ix_of hv h8 (by decide)) dX8_owes_57 ?_
          refine r_iload_n dX8_owes_58 rfl ?_
          refine r_icmp_ne 72 dX8_owes_59 (by decide) (fun c59 => ?_) (fun c59 => ?_)
          · skip
            refine r_iconst (v := 0) dX8_owes_72 (by decide) ?_
            exact hJ73 _ (by rw [← show mI M 12 i = yp δ i from D.1 i hi, ← (V.2.2.2 i hi).2, ← (V.2.2.2 i hi).1]; simp [*])
          · skip
            refine r_aload_n dX8_owes_62 rfl ?_
            refine r_getR flX8_29_8 rfl (hs.lt (by decide)) (hs.T 0 rfl) (hs.R 0 3 rfl) dX8_owes_63 ?_
            refine r_iload dX8_owes_66 rfl ?_
            refine r_ial (hs.T 9 rfl) (hs.lt (by decide)) (ix_of hv h8 (by decide)) dX8_owes_68 ?_
            refine r_goto 73 dX8_owes_69 (by decide) ?_
            exact hJ73 _ (by rw [← show mI M 12 i = yp δ i from D.1 i hi, ← (V.2.2.2 i hi).2, ← (V.2.2.2 i hi).1]; simp [*])
set_option maxHeartbeats 4000000 in
set_option maxRecDepth 100000 in
theorem kX8_owes (g : Gx) (M : Mm) (σ : Ab) (δ : Dy) (K : CA σ δ M) (p q : Int32) : Ct g yX8_owes cX8_owes 5 (Option.some FieldType.int) rmX8_owes [.ref (g.1 + 0), .int p, .int q] M (pI fun r M' => M' = M ∧ r = oweR σ δ p q) := by
  obtain ⟨hs, w, dw, V, D, D2, D3, D4, D5, D6⟩ := id K
  refine Ct.of rfl (Nat.le_of_ble_eq_true rfl) (fun x => ?_)
  refine r_iload_n dX8_owes_0 rfl ?_
  refine r_cS1i csX8_157 (kX8_isHouse g M p) hs.pos ⟨Nat.le_of_ble_eq_true rfl, Nat.le_of_ble_eq_true rfl⟩ (Nat.le_of_ble_eq_true rfl) ⟨Nat.le_of_ble_eq_true rfl, Nat.le_of_ble_eq_true rfl⟩ dX8_owes_1 (fun r1 M1 h1 => ?_)
  obtain ⟨e1, h1⟩ := h1
  replace e1 := e1.symm
  subst e1
  refine r_if_eq 19 dX8_owes_4 (by decide) (fun c4 => ?_) (fun c4 => ?_)
  · skip
    refine r_bipush (v := -101) dX8_owes_19 (by decide) ?_
    exact r_iret dX8_owes_21 ⟨_, rfl, rfl, by rw [oweR]; grind⟩
  · skip
    refine r_iload_n dX8_owes_7 rfl ?_
    refine r_cS1i csX8_157 (kX8_isHouse g M q) hs.pos ⟨Nat.le_of_ble_eq_true rfl, Nat.le_of_ble_eq_true rfl⟩ (Nat.le_of_ble_eq_true rfl) ⟨Nat.le_of_ble_eq_true rfl, Nat.le_of_ble_eq_true rfl⟩ dX8_owes_8 (fun r8 M8 h8 => ?_)
    obtain ⟨e8, h8⟩ := h8
    replace e8 := e8.symm
    subst e8
    refine r_if_eq 19 dX8_owes_11 (by decide) (fun c11 => ?_) (fun c11 => ?_)
    · skip
      refine r_bipush (v := -101) dX8_owes_19 (by decide) ?_
      exact r_iret dX8_owes_21 ⟨_, rfl, rfl, by rw [oweR]; grind⟩
    · skip
      refine r_iload_n dX8_owes_14 rfl ?_
      refine r_iload_n dX8_owes_15 rfl ?_
      refine r_icmp_ne 22 dX8_owes_16 (by decide) (fun c16 => ?_) (fun c16 => ?_)
      · skip
        refine r_iconst (v := 0) dX8_owes_22 (by decide) ?_
        refine r_istore_n dX8_owes_23 (by decide) rfl ?_
        refine r_iconst (v := 0) dX8_owes_24 (by decide) ?_
        refine r_istore dX8_owes_25 (by decide) rfl ?_
        exact r_lv (lvSc rfl (lvSc rfl (lvSc rfl (lvSc rfl (lvSc rfl lvS0))))) (lp_owes g x M σ δ K p q ⟨one_of h1 c4, one_of h8 c11, c16⟩ (zS σ + 1) 0 0 0 (by omega) (by omega) rfl rfl)
      · skip
        refine r_bipush (v := -101) dX8_owes_19 (by decide) ?_
        exact r_iret dX8_owes_21 ⟨_, rfl, rfl, by rw [oweR]; grind⟩
def rmX8_tenths : Room := { frames := 1, cells := 0, slots := 0, locals := 21 }
set_option maxHeartbeats 4000000 in
set_option maxRecDepth 100000 in
theorem kX8_tenths (g : Gx) (M : Mm) (σ : Ab) (δ : Dy) (K : CA σ δ M) (t v : Int32) : Ct g yX8_tenths cX8_tenths 4 (Option.some FieldType.int) rmX8_tenths [.ref (g.1 + 0), .int t, .int v] M (pI fun r M' => Fr [17] [] M M' ∧ r = tenR σ δ t v ∧ CA σ (tenD σ δ t v) M') := by
  obtain ⟨hs, w, dw, V, D, D2, D3, D4, D5, D6⟩ := id K
  refine Ct.of rfl (Nat.le_of_ble_eq_true rfl) (fun x => ?_)
  refine r_aload_n dX8_tenths_0 rfl ?_
  refine r_iload_n dX8_tenths_1 rfl ?_
  refine r_cV1i cvX8_133 (kX8_isThief g M hs t) (hs.lt (by decide)) (hs.T 0 rfl) ⟨Nat.le_of_ble_eq_true rfl, Nat.le_of_ble_eq_true rfl⟩ (Nat.le_of_ble_eq_true rfl) ⟨Nat.le_of_ble_eq_true rfl, Nat.le_of_ble_eq_true rfl⟩ dX8_tenths_2 (fun r2 M2 h2 => ?_)
  obtain ⟨e2, h2⟩ := h2
  replace e2 := e2.symm
  subst e2
  rw [V.1] at h2
  refine r_if_ne 11 dX8_tenths_5 (by decide) (fun c5 => ?_) (fun c5 => ?_)
  · skip
    obtain ⟨j, hj, ej⟩ := ix_ex (by have := w.1; omega) (one_of h2 c5).1 (one_of h2 c5).2
    have hj8 : j < 8 := Nat.lt_of_lt_of_le hj w.1
    have hcl : t.toNatClampNeg = j := by rw [ej]; exact nI_clamp (by omega)
    refine r_iload_n dX8_tenths_11 rfl ?_
    refine r_if_lt 21 dX8_tenths_12 (by decide) (fun c12 => ?_) (fun c12 => ?_)
    · skip
      refine r_bipush (v := -102) dX8_tenths_21 (by decide) ?_
      exact r_iret dX8_tenths_23 ⟨_, rfl, Fr.rf _ _ _, by rw [tenR, if_pos (one_of h2 c5), if_neg (by grind)], by rw [tenD, if_neg (by grind)]; exact K⟩
    · skip
      refine r_iload_n dX8_tenths_15 rfl ?_
      refine r_bipush (v := 10) dX8_tenths_16 (by decide) ?_
      refine r_icmp_le 24 dX8_tenths_18 (by decide) (fun c18 => ?_) (fun c18 => ?_)
      · skip
        refine r_aload_n dX8_tenths_24 rfl ?_
        refine r_getR flX8_39_8 rfl (hs.lt (by decide)) (hs.T 0 rfl) (hs.R 0 5 rfl) dX8_tenths_25 ?_
        refine r_getR flX8_130_1 rfl (hs.lt (by decide)) (hs.T 11 rfl) (hs.R 11 5 rfl) dX8_tenths_28 ?_
        refine r_iload_n dX8_tenths_31 rfl ?_
        refine r_ial (hs.T 17 rfl) (hs.lt (by decide)) (ix_of ej hj8 (by decide)) dX8_tenths_32 ?_
        refine r_istore_n dX8_tenths_33 (by decide) rfl ?_
        refine r_aload_n dX8_tenths_34 rfl ?_
        refine r_getR flX8_39_8 rfl (hs.lt (by decide)) (hs.T 0 rfl) (hs.R 0 5 rfl) dX8_tenths_35 ?_
        refine r_getR flX8_130_1 rfl (hs.lt (by decide)) (hs.T 11 rfl) (hs.R 11 5 rfl) dX8_tenths_38 ?_
        refine r_iload_n dX8_tenths_41 rfl ?_
        refine r_iload_n dX8_tenths_42 rfl ?_
        refine r_ias (hs.T 17 rfl) (hs.lt (by decide)) (ix_of ej hj8 (by decide)) dX8_tenths_43 ?_
        refine r_iload_n dX8_tenths_44 rfl ?_
        exact r_iret dX8_tenths_45 ⟨_, rfl, (Fr.rf _ _ _).sI (by simp), by rw [tenR, if_pos (one_of h2 c5), if_pos (by grind), hcl]; exact D3 j hj, by rw [tenD, if_pos ⟨one_of h2 c5, by grind⟩, hcl]; exact K.stT⟩
      · skip
        refine r_bipush (v := -102) dX8_tenths_21 (by decide) ?_
        exact r_iret dX8_tenths_23 ⟨_, rfl, Fr.rf _ _ _, by rw [tenR, if_pos (one_of h2 c5), if_neg (by grind)], by rw [tenD, if_neg (by grind)]; exact K⟩
  · skip
    refine r_bipush (v := -101) dX8_tenths_8 (by decide) ?_
    exact r_iret dX8_tenths_10 ⟨_, rfl, Fr.rf _ _ _, by rw [tenR, if_neg (zero_of h2 c5)], by rw [tenD, if_neg (fun q => zero_of h2 c5 q.1)]; exact K⟩
def rmX8_paid : Room := { frames := 1, cells := 0, slots := 0, locals := 21 }
set_option maxHeartbeats 4000000 in
set_option maxRecDepth 100000 in
theorem kX8_paid (g : Gx) (M : Mm) (σ : Ab) (δ : Dy) (K : CA σ δ M) (t b : Int32) (hb : b01 b) : Ct g yX8_paid cX8_paid 4 (Option.some FieldType.int) rmX8_paid [.ref (g.1 + 0), .int t, .int b] M (pI fun r M' => Fr [16] [] M M' ∧ r = paidR σ δ t ∧ CA σ (paidD σ δ t b) M') := by
  obtain ⟨hs, w, dw, V, D, D2, D3, D4, D5, D6⟩ := id K
  refine Ct.of rfl (Nat.le_of_ble_eq_true rfl) (fun x => ?_)
  refine r_aload_n dX8_paid_0 rfl ?_
  refine r_iload_n dX8_paid_1 rfl ?_
  refine r_cV1i cvX8_133 (kX8_isThief g M hs t) (hs.lt (by decide)) (hs.T 0 rfl) ⟨Nat.le_of_ble_eq_true rfl, Nat.le_of_ble_eq_true rfl⟩ (Nat.le_of_ble_eq_true rfl) ⟨Nat.le_of_ble_eq_true rfl, Nat.le_of_ble_eq_true rfl⟩ dX8_paid_2 (fun r2 M2 h2 => ?_)
  obtain ⟨e2, h2⟩ := h2
  replace e2 := e2.symm
  subst e2
  rw [V.1] at h2
  refine r_if_ne 11 dX8_paid_5 (by decide) (fun c5 => ?_) (fun c5 => ?_)
  · skip
    obtain ⟨j, hj, ej⟩ := ix_ex (by have := w.1; omega) (one_of h2 c5).1 (one_of h2 c5).2
    have hj8 : j < 8 := Nat.lt_of_lt_of_le hj w.1
    have hcl : t.toNatClampNeg = j := by rw [ej]; exact nI_clamp (by omega)
    refine r_aload_n dX8_paid_11 rfl ?_
    refine r_getR flX8_39_8 rfl (hs.lt (by decide)) (hs.T 0 rfl) (hs.R 0 5 rfl) dX8_paid_12 ?_
    refine r_getR flX8_126_1 rfl (hs.lt (by decide)) (hs.T 11 rfl) (hs.R 11 4 rfl) dX8_paid_15 ?_
    refine r_iload_n dX8_paid_18 rfl ?_
    refine r_zal (hs.T 16 rfl) (hs.lt (by decide)) (ix_of ej hj8 (by decide)) dX8_paid_19 ?_
    refine r_cS1i csX8_149 (kX8_asNumber g M (mI M 16 j)) hs.pos ⟨Nat.le_of_ble_eq_true rfl, Nat.le_of_ble_eq_true rfl⟩ (Nat.le_of_ble_eq_true rfl) ⟨Nat.le_of_ble_eq_true rfl, Nat.le_of_ble_eq_true rfl⟩ dX8_paid_20 (fun r20 M20 h20 => ?_)
    obtain ⟨e20, h20⟩ := h20
    replace e20 := e20.symm
    subst e20
    refine r_istore_n dX8_paid_23 (by decide) rfl ?_
    refine r_aload_n dX8_paid_24 rfl ?_
    refine r_getR flX8_39_8 rfl (hs.lt (by decide)) (hs.T 0 rfl) (hs.R 0 5 rfl) dX8_paid_25 ?_
    refine r_getR flX8_126_1 rfl (hs.lt (by decide)) (hs.T 11 rfl) (hs.R 11 4 rfl) dX8_paid_28 ?_
    refine r_iload_n dX8_paid_31 rfl ?_
    refine r_iload_n dX8_paid_32 rfl ?_
    refine r_zas (hs.T 16 rfl) (hs.lt (by decide)) (ix_of ej hj8 (by decide)) hb dX8_paid_33 ?_
    refine r_iload_n dX8_paid_34 rfl ?_
    exact r_iret dX8_paid_35 ⟨_, rfl, (Fr.rf _ _ _).sI (by simp), by rw [paidR, if_pos (one_of h2 c5), hcl, h20]; have := D.2.2.2 j hj; rw [show mI M 16 j = yq δ j from this.1]; rcases this.2 with e | e <;> rw [e] <;> rfl, by rw [paidD, if_pos (one_of h2 c5), hcl]; exact K.stP hj hb⟩
  · skip
    refine r_bipush (v := -101) dX8_paid_8 (by decide) ?_
    exact r_iret dX8_paid_10 ⟨_, rfl, Fr.rf _ _ _, by rw [paidR, if_neg (zero_of h2 c5)], by rw [paidD, if_neg (zero_of h2 c5)]; exact K⟩
def rmX8_lock : Room := { frames := 1, cells := 0, slots := 0, locals := 20 }
set_option maxHeartbeats 4000000 in
set_option maxRecDepth 100000 in
theorem kX8_lock (g : Gx) (M : Mm) (σ : Ab) (δ : Dy) (K : CA σ δ M) (t v : Int32) : Ct g yX8_lock cX8_lock 4 (Option.some FieldType.int) rmX8_lock [.ref (g.1 + 0), .int t, .int v] M (pI fun r M' => Fr [14] [] M M' ∧ r = lockR δ t v ∧ CA σ (lockD δ t v) M') := by
  obtain ⟨hs, w, dw, V, D, D2, D3, D4, D5, D6⟩ := id K
  refine Ct.of rfl (Nat.le_of_ble_eq_true rfl) (fun x => ?_)
  refine r_iload_n dX8_lock_0 rfl ?_
  refine r_cS1i csX8_157 (kX8_isHouse g M t) hs.pos ⟨Nat.le_of_ble_eq_true rfl, Nat.le_of_ble_eq_true rfl⟩ (Nat.le_of_ble_eq_true rfl) ⟨Nat.le_of_ble_eq_true rfl, Nat.le_of_ble_eq_true rfl⟩ dX8_lock_1 (fun r1 M1 h1 => ?_)
  obtain ⟨e1, h1⟩ := h1
  replace e1 := e1.symm
  subst e1
  refine r_if_ne 10 dX8_lock_4 (by decide) (fun c4 => ?_) (fun c4 => ?_)
  · skip
    obtain ⟨j, hj8, ej⟩ := ix_ex (n := 8) (by decide) (one_of h1 c4).1 (one_of h1 c4).2
    have hcl : t.toNatClampNeg = j := by rw [ej]; exact nI_clamp (by omega)
    refine r_iload_n dX8_lock_10 rfl ?_
    refine r_if_lt 20 dX8_lock_11 (by decide) (fun c11 => ?_) (fun c11 => ?_)
    · skip
      refine r_bipush (v := -102) dX8_lock_20 (by decide) ?_
      exact r_iret dX8_lock_22 ⟨_, rfl, Fr.rf _ _ _, by rw [lockR, if_pos (one_of h1 c4), if_neg (by grind)], by rw [lockD, if_neg (by grind)]; exact K⟩
    · skip
      refine r_iload_n dX8_lock_14 rfl ?_
      refine r_bipush (v := 9) dX8_lock_15 (by decide) ?_
      refine r_icmp_le 23 dX8_lock_17 (by decide) (fun c17 => ?_) (fun c17 => ?_)
      · skip
        refine r_aload_n dX8_lock_23 rfl ?_
        refine r_getR flX8_39_8 rfl (hs.lt (by decide)) (hs.T 0 rfl) (hs.R 0 5 rfl) dX8_lock_24 ?_
        refine r_getR flX8_160_1 rfl (hs.lt (by decide)) (hs.T 11 rfl) (hs.R 11 2 rfl) dX8_lock_27 ?_
        refine r_iload_n dX8_lock_30 rfl ?_
        refine r_ial (hs.T 14 rfl) (hs.lt (by decide)) (ix_of ej hj8 (by decide)) dX8_lock_31 ?_
        refine r_istore_n dX8_lock_32 (by decide) rfl ?_
        refine r_aload_n dX8_lock_33 rfl ?_
        refine r_getR flX8_39_8 rfl (hs.lt (by decide)) (hs.T 0 rfl) (hs.R 0 5 rfl) dX8_lock_34 ?_
        refine r_getR flX8_160_1 rfl (hs.lt (by decide)) (hs.T 11 rfl) (hs.R 11 2 rfl) dX8_lock_37 ?_
        refine r_iload_n dX8_lock_40 rfl ?_
        refine r_iload_n dX8_lock_41 rfl ?_
        refine r_ias (hs.T 14 rfl) (hs.lt (by decide)) (ix_of ej hj8 (by decide)) dX8_lock_42 ?_
        refine r_iload_n dX8_lock_43 rfl ?_
        exact r_iret dX8_lock_44 ⟨_, rfl, (Fr.rf _ _ _).sI (by simp), by rw [lockR, if_pos (one_of h1 c4), if_pos (by grind), hcl]; exact D.2.1 j hj8, by rw [lockD, if_pos ⟨one_of h1 c4, by grind⟩, hcl]; exact K.stL (by grind)⟩
      · skip
        refine r_bipush (v := -102) dX8_lock_20 (by decide) ?_
        exact r_iret dX8_lock_22 ⟨_, rfl, Fr.rf _ _ _, by rw [lockR, if_pos (one_of h1 c4), if_neg (by grind)], by rw [lockD, if_neg (by grind)]; exact K⟩
  · skip
    refine r_bipush (v := -101) dX8_lock_7 (by decide) ?_
    exact r_iret dX8_lock_9 ⟨_, rfl, Fr.rf _ _ _, by rw [lockR, if_neg (zero_of h1 c4)], by rw [lockD, if_neg (fun q => zero_of h1 c4 q.1)]; exact K⟩
def rmX8_dog : Room := { frames := 1, cells := 0, slots := 0, locals := 20 }
set_option maxHeartbeats 4000000 in
set_option maxRecDepth 100000 in
theorem kX8_dog (g : Gx) (M : Mm) (σ : Ab) (δ : Dy) (K : CA σ δ M) (t b : Int32) (hb : b01 b) : Ct g yX8_dog cX8_dog 4 (Option.some FieldType.int) rmX8_dog [.ref (g.1 + 0), .int t, .int b] M (pI fun r M' => Fr [15] [] M M' ∧ r = dogR δ t ∧ CA σ (dogD δ t b) M') := by
  obtain ⟨hs, w, dw, V, D, D2, D3, D4, D5, D6⟩ := id K
  refine Ct.of rfl (Nat.le_of_ble_eq_true rfl) (fun x => ?_)
  refine r_iload_n dX8_dog_0 rfl ?_
  refine r_cS1i csX8_157 (kX8_isHouse g M t) hs.pos ⟨Nat.le_of_ble_eq_true rfl, Nat.le_of_ble_eq_true rfl⟩ (Nat.le_of_ble_eq_true rfl) ⟨Nat.le_of_ble_eq_true rfl, Nat.le_of_ble_eq_true rfl⟩ dX8_dog_1 (fun r1 M1 h1 => ?_)
  obtain ⟨e1, h1⟩ := h1
  replace e1 := e1.symm
  subst e1
  refine r_if_ne 10 dX8_dog_4 (by decide) (fun c4 => ?_) (fun c4 => ?_)
  · skip
    obtain ⟨j, hj8, ej⟩ := ix_ex (n := 8) (by decide) (one_of h1 c4).1 (one_of h1 c4).2
    have hcl : t.toNatClampNeg = j := by rw [ej]; exact nI_clamp (by omega)
    refine r_aload_n dX8_dog_10 rfl ?_
    refine r_getR flX8_39_8 rfl (hs.lt (by decide)) (hs.T 0 rfl) (hs.R 0 5 rfl) dX8_dog_11 ?_
    refine r_getR flX8_163_1 rfl (hs.lt (by decide)) (hs.T 11 rfl) (hs.R 11 3 rfl) dX8_dog_14 ?_
    refine r_iload_n dX8_dog_17 rfl ?_
    refine r_zal (hs.T 15 rfl) (hs.lt (by decide)) (ix_of ej hj8 (by decide)) dX8_dog_18 ?_
    refine r_cS1i csX8_149 (kX8_asNumber g M (mI M 15 j)) hs.pos ⟨Nat.le_of_ble_eq_true rfl, Nat.le_of_ble_eq_true rfl⟩ (Nat.le_of_ble_eq_true rfl) ⟨Nat.le_of_ble_eq_true rfl, Nat.le_of_ble_eq_true rfl⟩ dX8_dog_19 (fun r19 M19 h19 => ?_)
    obtain ⟨e19, h19⟩ := h19
    replace e19 := e19.symm
    subst e19
    refine r_istore_n dX8_dog_22 (by decide) rfl ?_
    refine r_aload_n dX8_dog_23 rfl ?_
    refine r_getR flX8_39_8 rfl (hs.lt (by decide)) (hs.T 0 rfl) (hs.R 0 5 rfl) dX8_dog_24 ?_
    refine r_getR flX8_163_1 rfl (hs.lt (by decide)) (hs.T 11 rfl) (hs.R 11 3 rfl) dX8_dog_27 ?_
    refine r_iload_n dX8_dog_30 rfl ?_
    refine r_iload_n dX8_dog_31 rfl ?_
    refine r_zas (hs.T 15 rfl) (hs.lt (by decide)) (ix_of ej hj8 (by decide)) hb dX8_dog_32 ?_
    refine r_iload_n dX8_dog_33 rfl ?_
    exact r_iret dX8_dog_34 ⟨_, rfl, (Fr.rf _ _ _).sI (by simp), by rw [dogR, if_pos (one_of h1 c4), hcl, h19]; have := D.2.2.1 j hj8; rw [show mI M 15 j = yd δ j from this.1]; rcases this.2 with e | e <;> rw [e] <;> rfl, by rw [dogD, if_pos (one_of h1 c4), hcl]; exact K.stD hb⟩
  · skip
    refine r_bipush (v := -101) dX8_dog_7 (by decide) ?_
    exact r_iret dX8_dog_9 ⟨_, rfl, Fr.rf _ _ _, by rw [dogR, if_neg (zero_of h1 c4)], by rw [dogD, if_neg (zero_of h1 c4)]; exact K⟩
def rmX8_seen : Room := { frames := 1, cells := 0, slots := 0, locals := 21 }
set_option maxHeartbeats 4000000 in
set_option maxRecDepth 100000 in
theorem kX8_seen (g : Gx) (M : Mm) (σ : Ab) (δ : Dy) (K : CA σ δ M) (t v : Int32) : Ct g yX8_seen cX8_seen 4 (Option.some FieldType.int) rmX8_seen [.ref (g.1 + 0), .int t, .int v] M (pI fun r M' => Fr [13] [] M M' ∧ r = seeR σ δ t v ∧ CA σ (seeD σ δ t v) M') := by
  obtain ⟨hs, w, dw, V, D, D2, D3, D4, D5, D6⟩ := id K
  refine Ct.of rfl (Nat.le_of_ble_eq_true rfl) (fun x => ?_)
  refine r_aload_n dX8_seen_0 rfl ?_
  refine r_iload_n dX8_seen_1 rfl ?_
  refine r_cV1i cvX8_172 (kX8_isSpoon g M hs t) (hs.lt (by decide)) (hs.T 0 rfl) ⟨Nat.le_of_ble_eq_true rfl, Nat.le_of_ble_eq_true rfl⟩ (Nat.le_of_ble_eq_true rfl) ⟨Nat.le_of_ble_eq_true rfl, Nat.le_of_ble_eq_true rfl⟩ dX8_seen_2 (fun r2 M2 h2 => ?_)
  obtain ⟨e2, h2⟩ := h2
  replace e2 := e2.symm
  subst e2
  rw [V.2.1] at h2
  refine r_if_eq 20 dX8_seen_5 (by decide) (fun c5 => ?_) (fun c5 => ?_)
  · skip
    refine r_bipush (v := -101) dX8_seen_20 (by decide) ?_
    exact r_iret dX8_seen_22 ⟨_, rfl, Fr.rf _ _ _, by rw [seeR, if_neg (by grind)], by rw [seeD, if_neg (by grind)]; exact K⟩
  · skip
    obtain ⟨j, hj, ej⟩ := ix_ex (by have := w.2.1; omega) (one_of h2 c5).1 (one_of h2 c5).2
    have hj8 : j < 8 := Nat.lt_of_lt_of_le hj w.2.1
    have hcl : t.toNatClampNeg = j := by rw [ej]; exact nI_clamp (by omega)
    refine r_iload_n dX8_seen_8 rfl ?_
    refine r_iconst (v := -1) dX8_seen_9 (by decide) ?_
    refine r_icmp_eq 23 dX8_seen_10 (by decide) (fun c10 => ?_) (fun c10 => ?_)
    · skip
      refine r_aload_n dX8_seen_23 rfl ?_
      refine r_getR flX8_39_8 rfl (hs.lt (by decide)) (hs.T 0 rfl) (hs.R 0 5 rfl) dX8_seen_24 ?_
      refine r_getR flX8_169_1 rfl (hs.lt (by decide)) (hs.T 11 rfl) (hs.R 11 1 rfl) dX8_seen_27 ?_
      refine r_iload_n dX8_seen_30 rfl ?_
      refine r_ial (hs.T 13 rfl) (hs.lt (by decide)) (ix_of ej hj8 (by decide)) dX8_seen_31 ?_
      refine r_istore_n dX8_seen_32 (by decide) rfl ?_
      refine r_aload_n dX8_seen_33 rfl ?_
      refine r_getR flX8_39_8 rfl (hs.lt (by decide)) (hs.T 0 rfl) (hs.R 0 5 rfl) dX8_seen_34 ?_
      refine r_getR flX8_169_1 rfl (hs.lt (by decide)) (hs.T 11 rfl) (hs.R 11 1 rfl) dX8_seen_37 ?_
      refine r_iload_n dX8_seen_40 rfl ?_
      refine r_iload_n dX8_seen_41 rfl ?_
      refine r_ias (hs.T 13 rfl) (hs.lt (by decide)) (ix_of ej hj8 (by decide)) dX8_seen_42 ?_
      refine r_iload_n dX8_seen_43 rfl ?_
      exact r_iret dX8_seen_44 ⟨_, rfl, (Fr.rf _ _ _).sI (by simp), by rw [seeR, if_pos ⟨one_of h2 c5, by grind⟩, hcl]; exact D2 j hj, by rw [seeD, if_pos ⟨one_of h2 c5, by grind⟩, hcl]; exact K.stE⟩
    · skip
      refine r_iload_n dX8_seen_13 rfl ?_
      refine r_cS1i csX8_157 (kX8_isHouse g M v) hs.pos ⟨Nat.le_of_ble_eq_true rfl, Nat.le_of_ble_eq_true rfl⟩ (Nat.le_of_ble_eq_true rfl) ⟨Nat.le_of_ble_eq_true rfl, Nat.le_of_ble_eq_true rfl⟩ dX8_seen_14 (fun r14 M14 h14 => ?_)
      obtain ⟨e14, h14⟩ := h14
      replace e14 := e14.symm
      subst e14
      refine r_if_ne 23 dX8_seen_17 (by decide) (fun c17 => ?_) (fun c17 => ?_)
      · skip
        refine r_aload_n dX8_seen_23 rfl ?_
        refine r_getR flX8_39_8 rfl (hs.lt (by decide)) (hs.T 0 rfl) (hs.R 0 5 rfl) dX8_seen_24 ?_
        refine r_getR flX8_169_1 rfl (hs.lt (by decide)) (hs.T 11 rfl) (hs.R 11 1 rfl) dX8_seen_27 ?_
        refine r_iload_n dX8_seen_30 rfl ?_
        refine r_ial (hs.T 13 rfl) (hs.lt (by decide)) (ix_of ej hj8 (by decide)) dX8_seen_31 ?_
        refine r_istore_n dX8_seen_32 (by decide) rfl ?_
        refine r_aload_n dX8_seen_33 rfl ?_
        refine r_getR flX8_39_8 rfl (hs.lt (by decide)) (hs.T 0 rfl) (hs.R 0 5 rfl) dX8_seen_34 ?_
        refine r_getR flX8_169_1 rfl (hs.lt (by decide)) (hs.T 11 rfl) (hs.R 11 1 rfl) dX8_seen_37 ?_
        refine r_iload_n dX8_seen_40 rfl ?_
        refine r_iload_n dX8_seen_41 rfl ?_
        refine r_ias (hs.T 13 rfl) (hs.lt (by decide)) (ix_of ej hj8 (by decide)) dX8_seen_42 ?_
        refine r_iload_n dX8_seen_43 rfl ?_
        exact r_iret dX8_seen_44 ⟨_, rfl, (Fr.rf _ _ _).sI (by simp), by rw [seeR, if_pos ⟨one_of h2 c5, by grind⟩, hcl]; exact D2 j hj, by rw [seeD, if_pos ⟨one_of h2 c5, by grind⟩, hcl]; exact K.stE⟩
      · skip
        refine r_bipush (v := -101) dX8_seen_20 (by decide) ?_
        exact r_iret dX8_seen_22 ⟨_, rfl, Fr.rf _ _ _, by rw [seeR, if_neg (by grind)], by rw [seeD, if_neg (by grind)]; exact K⟩
def rmX8_worth : Room := { frames := 1, cells := 0, slots := 0, locals := 24 }
set_option maxHeartbeats 4000000 in
set_option maxRecDepth 100000 in
theorem kX8_worth (g : Gx) (M : Mm) (σ : Ab) (δ : Dy) (K : CA σ δ M) (t : Int32) : Ct g yX8_worth cX8_worth 2 (Option.some FieldType.int) rmX8_worth [.ref (g.1 + 0), .int t] M (pI fun r M' => M' = M ∧ r = worR σ δ t) := by
  obtain ⟨hs, w, dw, V, D, D2, D3, D4, D5, D6⟩ := id K
  refine Ct.of rfl (Nat.le_of_ble_eq_true rfl) (fun x => ?_)
  refine r_iload_n dX8_worth_0 rfl ?_
  refine r_cS1i csX8_157 (kX8_isHouse g M t) hs.pos ⟨Nat.le_of_ble_eq_true rfl, Nat.le_of_ble_eq_true rfl⟩ (Nat.le_of_ble_eq_true rfl) ⟨Nat.le_of_ble_eq_true rfl, Nat.le_of_ble_eq_true rfl⟩ dX8_worth_1 (fun r1 M1 h1 => ?_)
  obtain ⟨e1, h1⟩ := h1
  replace e1 := e1.symm
  subst e1
  refine r_if_ne 10 dX8_worth_4 (by decide) (fun c4 => ?_) (fun c4 => ?_)
  · skip
    refine r_aload_n dX8_worth_10 rfl ?_
    refine r_aload_n dX8_worth_11 rfl ?_
    refine r_getR flX8_39_8 rfl (hs.lt (by decide)) (hs.T 0 rfl) (hs.R 0 5 rfl) dX8_worth_12 ?_
    refine r_iload_n dX8_worth_15 rfl ?_
    refine r_cV2i cvX8_175 (kX8_worthIn g M 11 (Or.inl rfl) hs σ w V (yp δ) D.1 t) (hs.lt (by decide)) (hs.T 0 rfl) ⟨Nat.le_of_ble_eq_true rfl, Nat.le_of_ble_eq_true rfl⟩ (Nat.le_of_ble_eq_true rfl) ⟨Nat.le_of_ble_eq_true rfl, Nat.le_of_ble_eq_true rfl⟩ dX8_worth_16 (fun r16 M16 h16 => ?_)
    obtain ⟨e16, h16⟩ := h16
    replace e16 := e16.symm
    subst e16
    exact r_iret dX8_worth_19 ⟨_, rfl, rfl, by rw [worR, if_pos (one_of h1 c4)]; exact h16⟩
  · skip
    refine r_bipush (v := -101) dX8_worth_7 (by decide) ?_
    exact r_iret dX8_worth_9 ⟨_, rfl, rfl, by rw [worR, if_neg (zero_of h1 c4)]⟩
