/-! the reference: sums, months -/
theorem inI {v r : Int32} (lo hi : Int32) (h : r = if lo.toInt64 ≤ v.toInt64 ∧ v.toInt64 ≤ hi.toInt64 then 1 else 0) : r = if lo ≤ v ∧ v ≤ hi then 1 else 0 := by
  rw [h]; exact ite_iff in_int
theorem RV1.of44 {σ : Ab} {M M' : Mm} (V : RV1 σ M) (e47 : mI M' 47 = mI M 47) (e50 : mI M' 50 = mI M 50) (e5 : mI M' 44 5 = mI M 44 5) (e10 : mI M' 44 10 = mI M 44 10) : RV1 σ M' := by
  unfold RV1
  rw [e47, e50, e5, e10]
  exact V
theorem bit255 {t : Nat} (h : t < 8) : bitI 255 t = 1 := by
  rcases (show t = 0 ∨ t = 1 ∨ t = 2 ∨ t = 3 ∨ t = 4 ∨ t = 5 ∨ t = 6 ∨ t = 7 by omega) with e | e | e | e | e | e | e | e <;> subst e <;> decide
theorem bitno0 : ∀ t, t < 8 → ∀ u, u < 8 → (bitI (255 &&& (((1 : Int32) <<< (nI t &&& 31)) ^^^ -1)) u = 1 ↔ u ≠ t) := by decide +kernel
theorem kX9_passA (g : Gx) (M : Mm) (hs : St M) (σ : Ab) (w : Wf σ) (V : RV1 σ M) (pd dg lo ps : Rw) (D : RD M σ dg lo ps) (hlo : ∀ h, h < 8 → 0 ≤ lo h) (p : Int32) (hp : ∀ t, t < zN σ → bitI p t = pd t) : Ct g yX9_pass cX9_pass 6 (some .int) rmX9_pass [.ref (g.1 + 44), .int 255, .int p] M (pI fun r M' => Fr [51, 52] [] M M' ∧ r = (passF σ pd dg lo allT ps (zN σ)).1 ∧ RD M' σ dg (lapF lo) (passF σ pd dg lo allT ps (zN σ)).2) := by
  have h := kX9_pass g M hs σ w V pd dg lo ps D hlo 255 p hp
  rw [passF_congr (cn := allT) (fun t ht => ⟨fun _ => trivial, fun _ => bit255 (by have := w.1; omega)⟩)] at h
  exact h
def rmX9_inHouse : Room := { frames := 0, cells := 0, slots := 0, locals := 0 }
set_option maxHeartbeats 4000000 in
set_option maxRecDepth 100000 in
theorem lp_rinHouse (g : Gx) (x : Cx) (M : Mm) (σ : Ab) (δ : Dy) (C : RA σ δ M) (ps : Rw) (hps : ∀ s, s < zS σ → mI M 51 s = ps s) (h : Int32) : ∀ (n : Nat) (i : Nat) (v b : Int32), i ≤ zS σ → zS σ - i < n → v = nI i → b = sumF (fun s => if ps s = h then zw σ s else 0) i → Vj x g yX9_inHouse cX9_inHouse 4 (Option.some FieldType.int) rmX9_inHouse (Qm x g rmX9_inHouse.cells rmX9_inHouse.slots (pI fun r M' => M' = M ∧ r = sumF (fun s => if ps s = h then zw σ s else 0) (zS σ))) 0 0 M 4 [(0, some (.ref (g.1 + 44))), (1, some (.int h)), (2, some (.int b)), (3, some (.int v))] [] := by
  intro n
  induction n with
  | zero => intro i v b hiS hn hv hb; omega
  | succ n ih =>
    intro i v b hiS hn hv hb
    obtain ⟨hs, w, dw, V, r1, r2, r3, r4, r5, r6, r7⟩ := id C
    subst hv
    have hv : nI i = nI i := rfl
    refine r_iload_n dX9_inHouse_4 rfl ?_
    refine r_aload_n dX9_inHouse_5 rfl ?_
    refine r_getI flX9_113_9 rfl (hs.lt (by decide)) (hs.T 44 rfl) dX9_inHouse_6 ?_
    refine r_icmp_ge 43 dX9_inHouse_9 (by decide) (fun c9 => ?_) (fun c9 => ?_)
    · skip
      have e0 := lp_ge (n := zS σ) hv V.2.1 c9 hiS (by have := w.2.1; omega)
      subst e0
      refine r_iload_n dX9_inHouse_43 rfl ?_
      exact r_iret dX9_inHouse_44 ⟨_, rfl, rfl, hb⟩
    · skip
      have hi : i < zS σ := lp_lt (n := zS σ) hv V.2.1 c9 hiS (by have := w.2.1; omega)
      have hi8 : i < 8 := Nat.lt_of_lt_of_le hi w.2.1
      refine r_iload_n dX9_inHouse_12 rfl ?_
      refine r_dia (P := fun u => u = (fun s => if ps s = h then zw σ s else 0) i) 35 (fun u hu => ?_) (fun hJ35 => ?_)
      · skip
        refine r_iadd dX9_inHouse_35 ?_
        refine r_istore_n dX9_inHouse_36 (by decide) rfl ?_
        refine r_iinc dX9_inHouse_37 rfl rfl rfl ?_
        refine r_goto 4 dX9_inHouse_40 (by decide) ?_
        exact r_lv (lvSc rfl (lvSc rfl (lvSc rfl (lvSc rfl lvS0)))) (ih (i + 1) _ _ (by omega) (by omega) (nI_inc rfl) (by rw [sumF, hb, hu]))
      · skip
        refine r_aload_n dX9_inHouse_13 rfl ?_
        refine r_getR flX9_28_9 rfl (hs.lt (by decide)) (hs.T 44 rfl) (hs.R 44 16 rfl) dX9_inHouse_14 ?_
        refine r_iload_n dX9_inHouse_17 rfl ?_
        refine r_ial (hs.T 51 rfl) (hs.lt (by decide)) (ix_nI hi8 (by decide)) dX9_inHouse_18 ?_
        refine r_iload_n dX9_inHouse_19 rfl ?_
        refine r_icmp_ne 34 dX9_inHouse_20 (by decide) (fun c20 => ?_) (fun c20 => ?_)
        · skip
          rw [hps i hi] at c20
          have hfin : (0 : Int32) = (fun s => if ps s = h then zw σ s else 0) i := by
            show _ = ite _ _ _
            rw [if_neg c20]
          refine r_iconst (v := 0) dX9_inHouse_34 (by decide) ?_
          exact hJ35 _ hfin
        · skip
          rw [hps i hi] at c20
          have hfin : mI M 50 (4 * i) = (fun s => if ps s = h then zw σ s else 0) i := by
            show _ = ite _ _ _
            rw [if_pos c20]; exact (V.2.2.2 i hi).1
          refine r_aload_n dX9_inHouse_23 rfl ?_
          refine r_getR flX9_25_9 rfl (hs.lt (by decide)) (hs.T 44 rfl) (hs.R 44 15 rfl) dX9_inHouse_24 ?_
          refine r_iconst (v := 4) dX9_inHouse_27 (by decide) ?_
          refine r_iload_n dX9_inHouse_28 rfl ?_
          refine r_imul dX9_inHouse_29 ?_
          refine r_ial (hs.T 50 rfl) (hs.lt (by decide)) (ix40 (by omega) (by decide)) dX9_inHouse_30 ?_
          refine r_goto 35 dX9_inHouse_31 (by decide) ?_
          exact hJ35 _ hfin
set_option maxHeartbeats 4000000 in
set_option maxRecDepth 100000 in
theorem kX9_inHouse (g : Gx) (M : Mm) (σ : Ab) (δ : Dy) (C : RA σ δ M) (ps : Rw) (hps : ∀ s, s < zS σ → mI M 51 s = ps s) (h : Int32) : Ct g yX9_inHouse cX9_inHouse 4 (Option.some FieldType.int) rmX9_inHouse [.ref (g.1 + 44), .int h] M (pI fun r M' => M' = M ∧ r = sumF (fun s => if ps s = h then zw σ s else 0) (zS σ)) := by
  refine Ct.of rfl (Nat.le_of_ble_eq_true rfl) (fun x => ?_)
  refine r_iconst (v := 0) dX9_inHouse_0 (by decide) ?_
  refine r_istore_n dX9_inHouse_1 (by decide) rfl ?_
  refine r_iconst (v := 0) dX9_inHouse_2 (by decide) ?_
  refine r_istore_n dX9_inHouse_3 (by decide) rfl ?_
  exact r_lv (lvSc rfl (lvSc rfl (lvSc rfl (lvSc rfl lvS0)))) (lp_rinHouse g x M σ δ C ps hps h (zS σ + 1) 0 0 0 (by omega) (by omega) rfl rfl)
def rmX9_worthOf : Room := { frames := 0, cells := 0, slots := 0, locals := 0 }
set_option maxHeartbeats 4000000 in
set_option maxRecDepth 100000 in
theorem lp_rworthOf (g : Gx) (x : Cx) (M : Mm) (σ : Ab) (δ : Dy) (C : RA σ δ M) (h : Int32) : ∀ (n : Nat) (i : Nat) (v b : Int32), i ≤ zS σ → zS σ - i < n → v = nI i → b = sumF (fun s => if yp δ s = h then zw σ s else 0) i → Vj x g yX9_worthOf cX9_worthOf 4 (Option.some FieldType.int) rmX9_worthOf (Qm x g rmX9_worthOf.cells rmX9_worthOf.slots (pI fun r M' => M' = M ∧ r = sumF (fun s => if yp δ s = h then zw σ s else 0) (zS σ))) 0 0 M 4 [(0, some (.ref (g.1 + 44))), (1, some (.int h)), (2, some (.int b)), (3, some (.int v))] [] := by
  intro n
  induction n with
  | zero => intro i v b hiS hn hv hb; omega
  | succ n ih =>
    intro i v b hiS hn hv hb
    obtain ⟨hs, w, dw, V, r1, r2, r3, r4, r5, r6, r7⟩ := id C
    subst hv
    have hv : nI i = nI i := rfl
    refine r_iload_n dX9_worthOf_4 rfl ?_
    refine r_aload_n dX9_worthOf_5 rfl ?_
    refine r_getI flX9_113_9 rfl (hs.lt (by decide)) (hs.T 44 rfl) dX9_worthOf_6 ?_
    refine r_icmp_ge 47 dX9_worthOf_9 (by decide) (fun c9 => ?_) (fun c9 => ?_)
    · skip
      have e0 := lp_ge (n := zS σ) hv V.2.1 c9 hiS (by have := w.2.1; omega)
      subst e0
      refine r_iload_n dX9_worthOf_47 rfl ?_
      exact r_iret dX9_worthOf_48 ⟨_, rfl, rfl, hb⟩
    · skip
      have hi : i < zS σ := lp_lt (n := zS σ) hv V.2.1 c9 hiS (by have := w.2.1; omega)
      have hi8 : i < 8 := Nat.lt_of_lt_of_le hi w.2.1
      refine r_iload_n dX9_worthOf_12 rfl ?_
      refine r_dia (P := fun u => u = (fun s => if yp δ s = h then zw σ s else 0) i) 39 (fun u hu => ?_) (fun hJ39 => ?_)
      · skip
        refine r_iadd dX9_worthOf_39 ?_
        refine r_istore_n dX9_worthOf_40 (by decide) rfl ?_
        refine r_iinc dX9_worthOf_41 rfl rfl rfl ?_
        refine r_goto 4 dX9_worthOf_44 (by decide) ?_
        exact r_lv (lvSc rfl (lvSc rfl (lvSc rfl (lvSc rfl lvS0)))) (ih (i + 1) _ _ (by omega) (by omega) (nI_inc rfl) (by rw [sumF, hb, hu]))
      · skip
        refine r_aload_n dX9_worthOf_13 rfl ?_
        refine r_getR flX9_25_9 rfl (hs.lt (by decide)) (hs.T 44 rfl) (hs.R 44 15 rfl) dX9_worthOf_14 ?_
        refine r_iconst (v := 4) dX9_worthOf_17 (by decide) ?_
        refine r_iload_n dX9_worthOf_18 rfl ?_
        refine r_imul dX9_worthOf_19 ?_
        refine r_iconst (v := 2) dX9_worthOf_20 (by decide) ?_
        refine r_iadd dX9_worthOf_21 ?_
        refine r_ial (hs.T 50 rfl) (hs.lt (by decide)) (ix4 (c := 2) (by omega) (by decide)) dX9_worthOf_22 ?_
        refine r_iload_n dX9_worthOf_23 rfl ?_
        refine r_icmp_ne 38 dX9_worthOf_24 (by decide) (fun c24 => ?_) (fun c24 => ?_)
        · skip
          rw [show mI M 50 (4 * i + 2) = _ from (r1 i hi).1] at c24
          have hfin : (0 : Int32) = (fun s => if yp δ s = h then zw σ s else 0) i := by
            show _ = ite _ _ _
            rw [if_neg c24]
          refine r_iconst (v := 0) dX9_worthOf_38 (by decide) ?_
          exact hJ39 _ hfin
        · skip
          rw [show mI M 50 (4 * i + 2) = _ from (r1 i hi).1] at c24
          have hfin : mI M 50 (4 * i) = (fun s => if yp δ s = h then zw σ s else 0) i := by
            show _ = ite _ _ _
            rw [if_pos c24]; exact (V.2.2.2 i hi).1
          refine r_aload_n dX9_worthOf_27 rfl ?_
          refine r_getR flX9_25_9 rfl (hs.lt (by decide)) (hs.T 44 rfl) (hs.R 44 15 rfl) dX9_worthOf_28 ?_
          refine r_iconst (v := 4) dX9_worthOf_31 (by decide) ?_
          refine r_iload_n dX9_worthOf_32 rfl ?_
          refine r_imul dX9_worthOf_33 ?_
          refine r_ial (hs.T 50 rfl) (hs.lt (by decide)) (ix40 (by omega) (by decide)) dX9_worthOf_34 ?_
          refine r_goto 39 dX9_worthOf_35 (by decide) ?_
          exact hJ39 _ hfin
set_option maxHeartbeats 4000000 in
set_option maxRecDepth 100000 in
theorem kX9_worthOf (g : Gx) (M : Mm) (σ : Ab) (δ : Dy) (C : RA σ δ M) (h : Int32) : Ct g yX9_worthOf cX9_worthOf 4 (Option.some FieldType.int) rmX9_worthOf [.ref (g.1 + 44), .int h] M (pI fun r M' => M' = M ∧ r = sumF (fun s => if yp δ s = h then zw σ s else 0) (zS σ)) := by
  refine Ct.of rfl (Nat.le_of_ble_eq_true rfl) (fun x => ?_)
  refine r_iconst (v := 0) dX9_worthOf_0 (by decide) ?_
  refine r_istore_n dX9_worthOf_1 (by decide) rfl ?_
  refine r_iconst (v := 0) dX9_worthOf_2 (by decide) ?_
  refine r_istore_n dX9_worthOf_3 (by decide) rfl ?_
  exact r_lv (lvSc rfl (lvSc rfl (lvSc rfl (lvSc rfl lvS0)))) (lp_rworthOf g x M σ δ C h (zS σ + 1) 0 0 0 (by omega) (by omega) rfl rfl)
def rmX9_owesOf : Room := { frames := 0, cells := 0, slots := 0, locals := 0 }
set_option maxHeartbeats 4000000 in
set_option maxRecDepth 100000 in
theorem lp_rowesOf (g : Gx) (x : Cx) (M : Mm) (σ : Ab) (δ : Dy) (C : RA σ δ M) (p q : Int32) : ∀ (n : Nat) (i : Nat) (v b : Int32), i ≤ zS σ → zS σ - i < n → v = nI i → b = sumF (fun s => if yp δ s = p ∧ zo σ s = q then zw σ s else 0) i → Vj x g yX9_owesOf cX9_owesOf 5 (Option.some FieldType.int) rmX9_owesOf (Qm x g rmX9_owesOf.cells rmX9_owesOf.slots (pI fun r M' => M' = M ∧ r = sumF (fun s => if yp δ s = p ∧ zo σ s = q then zw σ s else 0) (zS σ))) 0 0 M 5 [(0, some (.ref (g.1 + 44))), (1, some (.int p)), (2, some (.int q)), (3, some (.int b)), (4, some (.int v))] [] := by
  intro n
  induction n with
  | zero => intro i v b hiS hn hv hb; omega
  | succ n ih =>
    intro i v b hiS hn hv hb
    obtain ⟨hs, w, dw, V, r1, r2, r3, r4, r5, r6, r7⟩ := id C
    subst hv
    have hv : nI i = nI i := rfl
    refine r_iload dX9_owesOf_5 rfl ?_
    refine r_aload_n dX9_owesOf_7 rfl ?_
    refine r_getI flX9_113_9 rfl (hs.lt (by decide)) (hs.T 44 rfl) dX9_owesOf_8 ?_
    refine r_icmp_ge 66 dX9_owesOf_11 (by decide) (fun c11 => ?_) (fun c11 => ?_)
    · skip
      have e0 := lp_ge (n := zS σ) hv V.2.1 c11 hiS (by have := w.2.1; omega)
      subst e0
      refine r_iload_n dX9_owesOf_66 rfl ?_
      exact r_iret dX9_owesOf_67 ⟨_, rfl, rfl, hb⟩
    · skip
      have hi : i < zS σ := lp_lt (n := zS σ) hv V.2.1 c11 hiS (by have := w.2.1; omega)
      have hi8 : i < 8 := Nat.lt_of_lt_of_le hi w.2.1
      refine r_iload_n dX9_owesOf_14 rfl ?_
      refine r_dia (P := fun u => u = (fun s => if yp δ s = p ∧ zo σ s = q then zw σ s else 0) i) 58 (fun u hu => ?_) (fun hJ58 => ?_)
      · skip
        refine r_iadd dX9_owesOf_58 ?_
        refine r_istore_n dX9_owesOf_59 (by decide) rfl ?_
        refine r_iinc dX9_owesOf_60 rfl rfl rfl ?_
        refine r_goto 5 dX9_owesOf_63 (by decide) ?_
        exact r_lv (lvSc rfl (lvSc rfl (lvSc rfl (lvSc rfl (lvSc rfl lvS0))))) (ih (i + 1) _ _ (by omega) (by omega) (nI_inc rfl) (by rw [sumF, hb, hu]))
      · skip
        refine r_aload_n dX9_owesOf_15 rfl ?_
        refine r_getR flX9_25_9 rfl (hs.lt (by decide)) (hs.T 44 rfl) (hs.R 44 15 rfl) dX9_owesOf_16 ?_
        refine r_iconst (v := 4) dX9_owesOf_19 (by decide) ?_
        refine r_iload dX9_owesOf_20 rfl ?_
        refine r_imul dX9_owesOf_22 ?_
        refine r_iconst (v := 2) dX9_owesOf_23 (by decide) ?_
        refine r_iadd dX9_owesOf_24 ?_
        refine r_ial (hs.T 50 rfl) (hs.lt (by decide)) (ix4 (c := 2) (by omega) (by decide)) dX9_owesOf_25 ?_
        refine r_iload_n dX9_owesOf_26 rfl ?_
        refine r_icmp_ne 57 dX9_owesOf_27 (by decide) (fun c27 => ?_) (fun c27 => ?_)
        · skip
          rw [show mI M 50 (4 * i + 2) = _ from (r1 i hi).1] at c27
          have hfin : (0 : Int32) = (fun s => if yp δ s = p ∧ zo σ s = q then zw σ s else 0) i := by
            show _ = ite _ _ _
            rw [if_neg (fun z => c27 z.1)]
          refine r_iconst (v := 0) dX9_owesOf_57 (by decide) ?_
          exact hJ58 _ hfin
        · skip
          rw [show mI M 50 (4 * i + 2) = _ from (r1 i hi).1] at c27
          refine r_aload_n dX9_owesOf_30 rfl ?_
          refine r_getR flX9_25_9 rfl (hs.lt (by decide)) (hs.T 44 rfl) (hs.R 44 15 rfl) dX9_owesOf_31 ?_
          refine r_iconst (v := 4) dX9_owesOf_34 (by decide) ?_
          refine r_iload dX9_owesOf_35 rfl ?_
          refine r_imul dX9_owesOf_37 ?_
          refine r_iconst (v := 1) dX9_owesOf_38 (by decide) ?_
          refine r_iadd dX9_owesOf_39 ?_
          refine r_ial (hs.T 50 rfl) (hs.lt (by decide)) (ix4 (c := 1) (by omega) (by decide)) dX9_owesOf_40 ?_
          refine r_iload_n dX9_owesOf_41 rfl ?_
          refine r_icmp_ne 57 dX9_owesOf_42 (by decide) (fun c42 => ?_) (fun c42 => ?_)
          · skip
            rw [show mI M 50 (4 * i + 1) = _ from (V.2.2.2 i hi).2] at c42
            have hfin : (0 : Int32) = (fun s => if yp δ s = p ∧ zo σ s = q then zw σ s else 0) i := by
              show _ = ite _ _ _
              rw [if_neg (fun z => c42 z.2)]
            refine r_iconst (v := 0) dX9_owesOf_57 (by decide) ?_
            exact hJ58 _ hfin
          · skip
            rw [show mI M 50 (4 * i + 1) = _ from (V.2.2.2 i hi).2] at c42
            have hfin : mI M 50 (4 * i) = (fun s => if yp δ s = p ∧ zo σ s = q then zw σ s else 0) i := by
              show _ = ite _ _ _
              rw [if_pos ⟨c27, c42⟩]; exact (V.2.2.2 i hi).1
            refine r_aload_n dX9_owesOf_45 rfl ?_
            refine r_getR flX9_25_9 rfl (hs.lt (by decide)) (hs.T 44 rfl) (hs.R 44 15 rfl) dX9_owesOf_46 ?_
            refine r_iconst (v := 4) dX9_owesOf_49 (by decide) ?_
            refine r_iload dX9_owesOf_50 rfl ?_
            refine r_imul dX9_owesOf_52 ?_
            refine r_ial (hs.T 50 rfl) (hs.lt (by decide)) (ix40 (by omega) (by decide)) dX9_owesOf_53 ?_
            refine r_goto 58 dX9_owesOf_54 (by decide) ?_
            exact hJ58 _ hfin
set_option maxHeartbeats 4000000 in
set_option maxRecDepth 100000 in
theorem kX9_owesOf (g : Gx) (M : Mm) (σ : Ab) (δ : Dy) (C : RA σ δ M) (p q : Int32) : Ct g yX9_owesOf cX9_owesOf 5 (Option.some FieldType.int) rmX9_owesOf [.ref (g.1 + 44), .int p, .int q] M (pI fun r M' => M' = M ∧ r = sumF (fun s => if yp δ s = p ∧ zo σ s = q then zw σ s else 0) (zS σ)) := by
  refine Ct.of rfl (Nat.le_of_ble_eq_true rfl) (fun x => ?_)
  refine r_iconst (v := 0) dX9_owesOf_0 (by decide) ?_
  refine r_istore_n dX9_owesOf_1 (by decide) rfl ?_
  refine r_iconst (v := 0) dX9_owesOf_2 (by decide) ?_
  refine r_istore dX9_owesOf_3 (by decide) rfl ?_
  exact r_lv (lvSc rfl (lvSc rfl (lvSc rfl (lvSc rfl (lvSc rfl lvS0))))) (lp_rowesOf g x M σ δ C p q (zS σ + 1) 0 0 0 (by omega) (by omega) rfl rfl)
def rmX9_worth : Room := { frames := 2, cells := 0, slots := 0, locals := 45 }
set_option maxHeartbeats 4000000 in
set_option maxRecDepth 100000 in
theorem kX9_worth (g : Gx) (M : Mm) (σ : Ab) (δ : Dy) (C : RA σ δ M) (h : Int32) : Ct g yX9_worth cX9_worth 2 (Option.some FieldType.int) rmX9_worth [.ref (g.1 + 44), .int h] M (pI fun r M' => M' = M ∧ r = worR σ δ h) := by
  obtain ⟨hs, w, dw, V, r1, r2, r3, r4, r5, r6, r7⟩ := id C
  refine Ct.of rfl (Nat.le_of_ble_eq_true rfl) (fun x => ?_)
  refine r_iload_n dX9_worth_0 rfl ?_
  refine r_cS1i csX9_116 (kX9_isHouse g M hs h) hs.pos ⟨Nat.le_of_ble_eq_true rfl, Nat.le_of_ble_eq_true rfl⟩ (Nat.le_of_ble_eq_true rfl) ⟨Nat.le_of_ble_eq_true rfl, Nat.le_of_ble_eq_true rfl⟩ dX9_worth_1 (fun z1 M1 h1 => ?_)
  obtain ⟨e1, h1⟩ := h1
  replace e1 := e1.symm
  subst e1
  refine r_if_eq 15 dX9_worth_4 (by decide) (fun c4 => ?_) (fun c4 => ?_)
  · skip
    refine r_bipush (v := -101) dX9_worth_15 (by decide) ?_
    exact r_iret dX9_worth_17 ⟨_, rfl, rfl, by rw [worR, if_neg (zero_of h1 c4)]⟩
  · skip
    refine r_aload_n dX9_worth_7 rfl ?_
    refine r_iload_n dX9_worth_8 rfl ?_
    refine r_cV1i cvX9_127 (kX9_worthOf g M σ δ C h) (hs.lt (by decide)) (hs.T 44 rfl) ⟨Nat.le_of_ble_eq_true rfl, Nat.le_of_ble_eq_true rfl⟩ (Nat.le_of_ble_eq_true rfl) ⟨Nat.le_of_ble_eq_true rfl, Nat.le_of_ble_eq_true rfl⟩ dX9_worth_9 (fun r9 M9 h9 => ?_)
    obtain ⟨e9, h9⟩ := h9
    replace e9 := e9.symm
    subst e9
    refine r_goto 17 dX9_worth_12 (by decide) ?_
    exact r_iret dX9_worth_17 ⟨_, rfl, rfl, by rw [worR, if_pos (one_of h1 c4), h9]; rfl⟩
def rmX9_owes : Room := { frames := 2, cells := 0, slots := 0, locals := 45 }
set_option maxHeartbeats 4000000 in
set_option maxRecDepth 100000 in
theorem kX9_owes (g : Gx) (M : Mm) (σ : Ab) (δ : Dy) (C : RA σ δ M) (p q : Int32) : Ct g yX9_owes cX9_owes 3 (Option.some FieldType.int) rmX9_owes [.ref (g.1 + 44), .int p, .int q] M (pI fun r M' => M' = M ∧ r = oweR σ δ p q) := by
  obtain ⟨hs, w, dw, V, r1, r2, r3, r4, r5, r6, r7⟩ := id C
  refine Ct.of rfl (Nat.le_of_ble_eq_true rfl) (fun x => ?_)
  refine r_iload_n dX9_owes_0 rfl ?_
  refine r_cS1i csX9_116 (kX9_isHouse g M hs p) hs.pos ⟨Nat.le_of_ble_eq_true rfl, Nat.le_of_ble_eq_true rfl⟩ (Nat.le_of_ble_eq_true rfl) ⟨Nat.le_of_ble_eq_true rfl, Nat.le_of_ble_eq_true rfl⟩ dX9_owes_1 (fun z1 M1 h1 => ?_)
  obtain ⟨e1, h1⟩ := h1
  replace e1 := e1.symm
  subst e1
  refine r_if_eq 28 dX9_owes_4 (by decide) (fun c4 => ?_) (fun c4 => ?_)
  · skip
    refine r_bipush (v := -101) dX9_owes_28 (by decide) ?_
    exact r_iret dX9_owes_30 ⟨_, rfl, rfl, by rw [oweR, if_neg (fun z => zero_of h1 c4 z.1)]⟩
  · skip
    refine r_iload_n dX9_owes_7 rfl ?_
    refine r_cS1i csX9_116 (kX9_isHouse g M hs q) hs.pos ⟨Nat.le_of_ble_eq_true rfl, Nat.le_of_ble_eq_true rfl⟩ (Nat.le_of_ble_eq_true rfl) ⟨Nat.le_of_ble_eq_true rfl, Nat.le_of_ble_eq_true rfl⟩ dX9_owes_8 (fun z8 M8 h8 => ?_)
    obtain ⟨e8, h8⟩ := h8
    replace e8 := e8.symm
    subst e8
    refine r_if_eq 28 dX9_owes_11 (by decide) (fun c11 => ?_) (fun c11 => ?_)
    · skip
      refine r_bipush (v := -101) dX9_owes_28 (by decide) ?_
      exact r_iret dX9_owes_30 ⟨_, rfl, rfl, by rw [oweR, if_neg (fun z => zero_of h8 c11 z.2.1)]⟩
    · skip
      refine r_iload_n dX9_owes_14 rfl ?_
      refine r_iload_n dX9_owes_15 rfl ?_
      refine r_icmp_eq 28 dX9_owes_16 (by decide) (fun c16 => ?_) (fun c16 => ?_)
      · skip
        refine r_bipush (v := -101) dX9_owes_28 (by decide) ?_
        exact r_iret dX9_owes_30 ⟨_, rfl, rfl, by rw [oweR, if_neg (fun z => z.2.2 c16)]⟩
      · skip
        refine r_aload_n dX9_owes_19 rfl ?_
        refine r_iload_n dX9_owes_20 rfl ?_
        refine r_iload_n dX9_owes_21 rfl ?_
        refine r_cV2i cvX9_202 (kX9_owesOf g M σ δ C p q) (hs.lt (by decide)) (hs.T 44 rfl) ⟨Nat.le_of_ble_eq_true rfl, Nat.le_of_ble_eq_true rfl⟩ (Nat.le_of_ble_eq_true rfl) ⟨Nat.le_of_ble_eq_true rfl, Nat.le_of_ble_eq_true rfl⟩ dX9_owes_22 (fun r22 M22 h22 => ?_)
        obtain ⟨e22, h22⟩ := h22
        replace e22 := e22.symm
        subst e22
        refine r_goto 30 dX9_owes_25 (by decide) ?_
        exact r_iret dX9_owes_30 ⟨_, rfl, rfl, by rw [oweR, if_pos ⟨one_of h1 c4, one_of h8 c11, c16⟩, h22]⟩
def rmX9_month : Room := { frames := 3, cells := 0, slots := 0, locals := 78 }
set_option maxHeartbeats 4000000 in
set_option maxRecDepth 100000 in
theorem lp_rmonC (g : Gx) (x : Cx) (P : Int32 → Mm → Prop) (M : Mm) (hs : St M) (σ : Ab) (δ : Dy) (w : Wf σ) (V : RV1 σ M) (r4 : ∀ t, t < zN σ → mI M 44 8 >>> (nI t &&& 31) &&& 1 = yq δ t) (e0 : mI M 44 12 = yf δ) (b4 : ∀ t, t < zN σ → b01 (yq δ t)) (tk : Int32) (hP : ∀ M', Fr [44] [] M M' → mI M' 44 12 = feeF σ δ (zN σ) → (∀ k, k ≠ 12 → mI M' 44 k = mI M 44 k) → P tk M') : ∀ (n : Nat) (i : Nat) (v : Int32) (M1 : Mm), i ≤ zN σ → zN σ - i < n → v = nI i → Fr [44] [] M M1 → mI M1 44 12 = feeF σ δ i → (∀ k, k ≠ 12 → mI M1 44 k = mI M 44 k) → Vj x g yX9_month cX9_month 3 (Option.some FieldType.int) rmX9_month (Qm x g rmX9_month.cells rmX9_month.slots (pI P)) 0 0 M1 96 [(0, some (.ref (g.1 + 44))), (1, some (.int tk)), (2, some (.int v))] [] := by
  intro n
  induction n with
  | zero => intro i v M1 hiN hn hv hF ef ek; omega
  | succ n ih =>
    intro i v M1 hiN hn hv hF ef ek
    have hs1 := hs.fr hF
    subst hv
    have hv : nI i = nI i := rfl
    refine r_iload_n dX9_month_96 rfl ?_
    refine r_aload_n dX9_month_97 rfl ?_
    refine r_getI flX9_91_9 rfl (hs1.lt (by decide)) (hs1.T 44 rfl) dX9_month_98 ?_
    refine r_icmp_ge 145 dX9_month_101 (by decide) (fun c101 => ?_) (fun c101 => ?_)
    · skip
      rw [ek 5 (by decide)] at c101
      have ez := lp_ge (n := zN σ) hv V.1 c101 hiN (by have := w.1; omega)
      subst ez
      refine r_iload_n dX9_month_145 rfl ?_
      exact r_iret dX9_month_146 ⟨_, rfl, hP _ hF ef ek⟩
    · skip
      rw [ek 5 (by decide)] at c101
      have hi : i < zN σ := lp_lt (n := zN σ) hv V.1 c101 hiN (by have := w.1; omega)
      have hi8 : i < 8 := Nat.lt_of_lt_of_le hi w.1
      refine r_aload_n dX9_month_104 rfl ?_
      refine r_dup dX9_month_105 rfl ?_
      refine r_getI flX9_160_9 rfl (hs1.lt (by decide)) (hs1.T 44 rfl) dX9_month_106 ?_
      refine r_dia (P := fun u => u = (if yq δ i = 0 then 0 else zf σ i)) 135 (fun u hu => ?_) (fun hJ135 => ?_)
      · skip
        refine r_iadd dX9_month_135 ?_
        refine r_putI fpX9_160_9 rfl (hs1.lt (by decide)) (hs1.T 44 rfl) rfl rfl dX9_month_136 ?_
        refine r_iinc dX9_month_139 rfl rfl rfl ?_
        refine r_goto 96 dX9_month_142 (by decide) ?_
        exact r_lv (lvSc rfl (lvSc rfl (lvSc rfl lvS0))) (ih (i + 1) _ _ (by omega) (by omega) (nI_inc rfl) (hF.sI (by simp)) (by rw [mI_sI, va_up_self, feeF, ef, hu]) (fun k hk => by rw [mI_sI, va_up_ne _ _ hk]; exact ek k hk))
      · skip
        refine r_aload_n dX9_month_109 rfl ?_
        refine r_getI flX9_94_9 rfl (hs1.lt (by decide)) (hs1.T 44 rfl) dX9_month_110 ?_
        refine r_iload_n dX9_month_113 rfl ?_
        refine r_ishr dX9_month_114 ?_
        refine r_iconst (v := 1) dX9_month_115 (by decide) ?_
        refine r_iand dX9_month_116 ?_
        refine r_iconst (v := 1) dX9_month_117 (by decide) ?_
        refine r_icmp_ne 134 dX9_month_118 (by decide) (fun c118 => ?_) (fun c118 => ?_)
        · skip
          rw [ek 8 (by decide), r4 i hi] at c118
          have hfin : (0 : Int32) = (if yq δ i = 0 then 0 else zf σ i) := by rw [if_pos ((b4 i hi).resolve_right c118)]
          refine r_iconst (v := 0) dX9_month_134 (by decide) ?_
          exact hJ135 _ hfin
        · skip
          rw [ek 8 (by decide), r4 i hi] at c118
          have hfin : mI M1 47 (4 * i + 3) = (if yq δ i = 0 then 0 else zf σ i) := by
            rw [if_neg (by rw [c118]; decide), hF.2.1 47 (by decide)]; exact (V.2.2.1 i hi).2.2.2
          refine r_aload_n dX9_month_121 rfl ?_
          refine r_getR flX9_16_9 rfl (hs1.lt (by decide)) (hs1.T 44 rfl) (hs1.R 44 7 rfl) dX9_month_122 ?_
          refine r_iconst (v := 4) dX9_month_125 (by decide) ?_
          refine r_iload_n dX9_month_126 rfl ?_
          refine r_imul dX9_month_127 ?_
          refine r_iconst (v := 3) dX9_month_128 (by decide) ?_
          refine r_iadd dX9_month_129 ?_
          refine r_ial (hs1.T 47 rfl) (hs1.lt (by decide)) (ix4 (c := 3) (by omega) (by decide)) dX9_month_130 ?_
          refine r_goto 135 dX9_month_131 (by decide) ?_
          exact hJ135 _ hfin
set_option maxHeartbeats 4000000 in
set_option maxRecDepth 100000 in
theorem lp_rmonB (g : Gx) (x : Cx) (P : Int32 → Mm → Prop) (M : Mm) (hs : St M) (σ : Ab) (δ : Dy) (w : Wf σ) (V : RV1 σ M) (r4 : ∀ t, t < zN σ → mI M 44 8 >>> (nI t &&& 31) &&& 1 = yq δ t) (e0 : mI M 44 12 = yf δ) (b4 : ∀ t, t < zN σ → b01 (yq δ t)) (tk : Int32) (hP : ∀ M', Fr [44, 49] [] M M' → (∀ h, h < 8 → mI M' 49 h = mI M 52 h) → mI M' 44 11 = mI M 44 11 + 1 → mI M' 44 12 = feeF σ δ (zN σ) → (∀ k, k ≠ 11 → k ≠ 12 → mI M' 44 k = mI M 44 k) → P tk M') : ∀ (n : Nat) (i : Nat) (v : Int32) (M1 : Mm), i ≤ 8 → 8 - i < n → v = nI i → Fr [49] [] M M1 → (∀ h, h < i → mI M1 49 h = mI M 52 h) → Vj x g yX9_month cX9_month 3 (Option.some FieldType.int) rmX9_month (Qm x g rmX9_month.cells rmX9_month.slots (pI P)) 0 0 M1 60 [(0, some (.ref (g.1 + 44))), (1, some (.int tk)), (2, some (.int v))] [] := by
  intro n
  induction n with
  | zero => intro i v M1 hi8 hn hv hF eb; omega
  | succ n ih =>
    intro i v M1 hi8 hn hv hF eb
    have hs1 := hs.fr hF
    subst hv
    have hv : nI i = nI i := rfl
    refine r_iload_n dX9_month_60 rfl ?_
    refine r_bipush (v := 8) dX9_month_61 (by decide) ?_
    refine r_icmp_ge 84 dX9_month_63 (by decide) (fun c63 => ?_) (fun c63 => ?_)
    · skip
      have ez := lp_ge (n := 8) hv rfl c63 hi8 (by decide)
      subst ez
      refine r_aload_n dX9_month_84 rfl ?_
      refine r_dup dX9_month_85 rfl ?_
      refine r_getI flX9_157_9 rfl (hs1.lt (by decide)) (hs1.T 44 rfl) dX9_month_86 ?_
      refine r_iconst (v := 1) dX9_month_89 (by decide) ?_
      refine r_iadd dX9_month_90 ?_
      refine r_putI fpX9_157_9 rfl (hs1.lt (by decide)) (hs1.T 44 rfl) rfl rfl dX9_month_91 ?_
      refine r_iconst (v := 0) dX9_month_94 (by decide) ?_
      refine r_istore_n dX9_month_95 (by decide) rfl ?_
      have hG : Fr [44, 49] [] M (sI M1 44 11 (mI M1 44 11 + 1)) := (hF.mono (by simp) (by simp)).sI (by simp)
      have g1 : mI M1 44 = mI M 44 := hF.2.1 44 (by decide)
      exact r_lv (lvSc rfl (lvSc rfl (lvSc rfl lvS0))) (lp_rmonC g x P (sI M1 44 11 (mI M1 44 11 + 1)) (hs.fr hG) σ δ w (V.of44 ((mI_sI_ne (by decide)).trans (hF.2.1 47 (by decide))) ((mI_sI_ne (by decide)).trans (hF.2.1 50 (by decide))) (by rw [mI_sI, g1, va_up_ne _ _ (by decide)]) (by rw [mI_sI, g1, va_up_ne _ _ (by decide)])) (by rw [mI_sI, g1, va_up_ne _ _ (by decide)]; exact r4) (by rw [mI_sI, g1, va_up_ne _ _ (by decide)]; exact e0) b4 tk (fun M' f1 f2 f3 => hP M' (hG.tr (f1.mono (by simp) (by simp))) (fun h h8 => by rw [f1.2.1 49 (by decide), mI_sI_ne (by decide)]; exact eb h h8) (by rw [f3 11 (by decide), mI_sI, va_up_self, g1]) f2 (fun k k1 k2 => by rw [f3 k k2, mI_sI, va_up_ne _ _ k1, g1])) (zN σ + 1) 0 0 _ (by omega) (by omega) rfl (Fr.rf _ _ _) (by rw [mI_sI, g1, va_up_ne _ _ (by decide)]; exact e0) (fun k _ => rfl))
    · skip
      have hi8 : i < 8 := lp_lt (n := 8) hv rfl c63 hi8 (by decide)
      refine r_aload_n dX9_month_66 rfl ?_
      refine r_getR flX9_22_9 rfl (hs1.lt (by decide)) (hs1.T 44 rfl) (hs1.R 44 14 rfl) dX9_month_67 ?_
      refine r_iload_n dX9_month_70 rfl ?_
      refine r_aload_n dX9_month_71 rfl ?_
      refine r_getR flX9_31_9 rfl (hs1.lt (by decide)) (hs1.T 44 rfl) (hs1.R 44 17 rfl) dX9_month_72 ?_
      refine r_iload_n dX9_month_75 rfl ?_
      refine r_ial (hs1.T 52 rfl) (hs1.lt (by decide)) (ix_nI hi8 (by decide)) dX9_month_76 ?_
      refine r_ias (hs1.T 49 rfl) (hs1.lt (by decide)) (ix_nI hi8 (by decide)) dX9_month_77 ?_
      refine r_iinc dX9_month_78 rfl rfl rfl ?_
      refine r_goto 60 dX9_month_81 (by decide) ?_
      exact r_lv (lvSc rfl (lvSc rfl (lvSc rfl lvS0))) (ih (i + 1) _ _ (by omega) (by omega) (nI_inc rfl) (hF.sI (by simp)) (fun h hh => by
        rw [mI_sI, va_up_if]
        split
        · next e => rw [e, hF.2.1 52 (by decide)]
        · exact eb h (by omega)))
set_option maxHeartbeats 4000000 in
set_option maxRecDepth 100000 in
theorem lp_rmonA (g : Gx) (x : Cx) (P : Int32 → Mm → Prop) (M : Mm) (hs : St M) (σ : Ab) (δ : Dy) (w : Wf σ) (V : RV1 σ M) (r4 : ∀ t, t < zN σ → mI M 44 8 >>> (nI t &&& 31) &&& 1 = yq δ t) (e0 : mI M 44 12 = yf δ) (b4 : ∀ t, t < zN σ → b01 (yq δ t)) (tk : Int32) (hP : ∀ M', Fr [44, 49, 50] [] M M' → (∀ k, mI M' 50 k = if k % 4 = 2 ∧ k / 4 < zS σ then mI M 51 (k / 4) else mI M 50 k) → (∀ h, h < 8 → mI M' 49 h = mI M 52 h) → mI M' 44 11 = mI M 44 11 + 1 → mI M' 44 12 = feeF σ δ (zN σ) → (∀ k, k ≠ 11 → k ≠ 12 → mI M' 44 k = mI M 44 k) → P tk M') : ∀ (n : Nat) (i : Nat) (v : Int32) (M1 : Mm), i ≤ zS σ → zS σ - i < n → v = nI i → Fr [50] [] M M1 → (∀ k, mI M1 50 k = if k % 4 = 2 ∧ k / 4 < i then mI M 51 (k / 4) else mI M 50 k) → Vj x g yX9_month cX9_month 3 (Option.some FieldType.int) rmX9_month (Qm x g rmX9_month.cells rmX9_month.slots (pI P)) 0 0 M1 28 [(0, some (.ref (g.1 + 44))), (1, some (.int tk)), (2, some (.int v))] [] := by
  intro n
  induction n with
  | zero => intro i v M1 hiS hn hv hF eb; omega
  | succ n ih =>
    intro i v M1 hiS hn hv hF eb
    have hs1 := hs.fr hF
    have g1 : mI M1 44 = mI M 44 := hF.2.1 44 (by decide)
    subst hv
    have hv : nI i = nI i := rfl
    refine r_iload_n dX9_month_28 rfl ?_
    refine r_aload_n dX9_month_29 rfl ?_
    refine r_getI flX9_113_9 rfl (hs1.lt (by decide)) (hs1.T 44 rfl) dX9_month_30 ?_
    refine r_icmp_ge 58 dX9_month_33 (by decide) (fun c33 => ?_) (fun c33 => ?_)
    · skip
      rw [g1] at c33
      have ez := lp_ge (n := zS σ) hv V.2.1 c33 hiS (by have := w.2.1; omega)
      subst ez
      refine r_iconst (v := 0) dX9_month_58 (by decide) ?_
      refine r_istore_n dX9_month_59 (by decide) rfl ?_
      have V1 : RV1 σ M1 := by
        refine ⟨by rw [g1]; exact V.1, by rw [g1]; exact V.2.1, by rw [hF.2.1 47 (by decide)]; exact V.2.2.1, fun s hs => ?_⟩
        rw [eb, eb, if_neg (by omega), if_neg (by omega)]
        exact V.2.2.2 s hs
      exact r_lv (lvSc rfl (lvSc rfl (lvSc rfl lvS0))) (lp_rmonB g x P M1 hs1 σ δ w V1 (by rw [g1]; exact r4) (by rw [g1]; exact e0) b4 tk (fun M' f1 f2 f3 f4 f5 => hP M' ((hF.mono (by simp) (by simp)).tr (f1.mono (by simp) (by simp))) (fun k => by rw [f1.2.1 50 (by decide)]; exact eb k) (fun h h8 => by rw [f2 h h8, hF.2.1 52 (by decide)]) (by rw [f3, g1]) f4 (fun k k1 k2 => by rw [f5 k k1 k2, g1])) 9 0 0 _ (by omega) (by omega) rfl (Fr.rf _ _ _) (fun h hh => by omega))
    · skip
      rw [g1] at c33
      have hi : i < zS σ := lp_lt (n := zS σ) hv V.2.1 c33 hiS (by have := w.2.1; omega)
      have hi8 : i < 8 := Nat.lt_of_lt_of_le hi w.2.1
      refine r_aload_n dX9_month_36 rfl ?_
      refine r_getR flX9_25_9 rfl (hs1.lt (by decide)) (hs1.T 44 rfl) (hs1.R 44 15 rfl) dX9_month_37 ?_
      refine r_iconst (v := 4) dX9_month_40 (by decide) ?_
      refine r_iload_n dX9_month_41 rfl ?_
      refine r_imul dX9_month_42 ?_
      refine r_iconst (v := 2) dX9_month_43 (by decide) ?_
      refine r_iadd dX9_month_44 ?_
      refine r_aload_n dX9_month_45 rfl ?_
      refine r_getR flX9_28_9 rfl (hs1.lt (by decide)) (hs1.T 44 rfl) (hs1.R 44 16 rfl) dX9_month_46 ?_
      refine r_iload_n dX9_month_49 rfl ?_
      refine r_ial (hs1.T 51 rfl) (hs1.lt (by decide)) (ix_nI hi8 (by decide)) dX9_month_50 ?_
      refine r_ias (hs1.T 50 rfl) (hs1.lt (by decide)) (ix4 (c := 2) (by omega) (by decide)) dX9_month_51 ?_
      refine r_iinc dX9_month_52 rfl rfl rfl ?_
      refine r_goto 28 dX9_month_55 (by decide) ?_
      exact r_lv (lvSc rfl (lvSc rfl (lvSc rfl lvS0))) (ih (i + 1) _ _ (by omega) (by omega) (nI_inc rfl) (hF.sI (by simp)) (fun k => by
        rw [mI_sI, va_up_if, hF.2.1 51 (by decide)]
        by_cases e : k = 4 * i + 2
        · rw [if_pos e, if_pos (by omega), show k / 4 = i by omega]
        · rw [if_neg e, eb k]
          by_cases z : k % 4 = 2 ∧ k / 4 < i
          · rw [if_pos z, if_pos (by omega)]
          · rw [if_neg z, if_neg (by omega)]))
set_option maxHeartbeats 4000000 in
set_option maxRecDepth 100000 in
theorem kX9_month (g : Gx) (M : Mm) (σ : Ab) (δ : Dy) (C : RA σ δ M) : Ct g yX9_month cX9_month 3 (Option.some FieldType.int) rmX9_month [.ref (g.1 + 44)] M (pI fun r M' => Fr [44, 49, 50, 51, 52] [] M M' ∧ r = monR σ δ ∧ RA σ (monD σ δ) M' ∧ ∀ k, k ≠ 11 → k ≠ 12 → mI M' 44 k = mI M 44 k) := by
  obtain ⟨hs, w, dw, V, r1, r2, r3, r4, r5, r6, r7⟩ := id C
  refine Ct.of rfl (Nat.le_of_ble_eq_true rfl) (fun x => ?_)
  refine r_aload_n dX9_month_0 rfl ?_
  refine r_cV0i cvX9_147 (kX9_lacks g M hs) (hs.lt (by decide)) (hs.T 44 rfl) ⟨Nat.le_of_ble_eq_true rfl, Nat.le_of_ble_eq_true rfl⟩ (Nat.le_of_ble_eq_true rfl) ⟨Nat.le_of_ble_eq_true rfl, Nat.le_of_ble_eq_true rfl⟩ dX9_month_1 (fun z1 M1 h1 => ?_)
  obtain ⟨e1, h1⟩ := h1
  replace e1 := e1.symm
  subst e1
  rw [V.1, ite_iff (nI_zero w.1)] at h1
  refine r_if_eq 10 dX9_month_4 (by decide) (fun c4 => ?_) (fun c4 => ?_)
  · skip
    refine r_aload_n dX9_month_10 rfl ?_
    refine r_cV0v cvX9_151 (kX9_begin g M σ δ C) (hs.lt (by decide)) (hs.T 44 rfl) ⟨Nat.le_of_ble_eq_true rfl, Nat.le_of_ble_eq_true rfl⟩ (Nat.le_of_ble_eq_true rfl) ⟨Nat.le_of_ble_eq_true rfl, Nat.le_of_ble_eq_true rfl⟩ dX9_month_11 (fun M11 h11 => ?_)
    obtain ⟨hF11, D11⟩ := h11
    have hs11 := hs.fr hF11
    have V11 := V.fr hF11 (by simp)
    have g11 : mI M11 44 = mI M 44 := hF11.2.1 44 (by decide)
    have q11 : ∀ t, t < zN σ → bitI (mI M11 44 8) t = yq δ t := fun t ht => by rw [g11]; exact r4 t ht
    refine r_aload_n dX9_month_14 rfl ?_
    refine r_sipush (v := 255) dX9_month_15 (by decide) ?_
    refine r_aload_n dX9_month_18 rfl ?_
    refine r_getI flX9_94_9 rfl (hs11.lt (by decide)) (hs11.T 44 rfl) dX9_month_19 ?_
    refine r_cV2i cvX9_154 (kX9_passA g M11 hs11 σ w V11 (yq δ) (yd δ) (yl δ) (yp δ) D11 dw.1 (mI M11 44 8) q11) (hs11.lt (by decide)) (hs11.T 44 rfl) ⟨Nat.le_of_ble_eq_true rfl, Nat.le_of_ble_eq_true rfl⟩ (Nat.le_of_ble_eq_true rfl) ⟨Nat.le_of_ble_eq_true rfl, Nat.le_of_ble_eq_true rfl⟩ dX9_month_22 (fun r22 M22 h22 => ?_)
    obtain ⟨hF22, e22, D22⟩ := h22
    have hs22 := hs11.fr hF22
    have V22 := V11.fr hF22 (by simp)
    have g22 : mI M22 44 = mI M 44 := (hF22.2.1 44 (by decide)).trans g11
    refine r_istore_n dX9_month_25 (by decide) rfl ?_
    refine r_iconst (v := 0) dX9_month_26 (by decide) ?_
    refine r_istore_n dX9_month_27 (by decide) rfl ?_
    exact r_lv (lvSc rfl (lvSc rfl (lvSc rfl lvS0))) (lp_rmonA g x _ M22 hs22 σ δ w V22 (by rw [g22]; exact r4) (by rw [g22]; exact r7) dw.2.2.2 r22 (fun M' f1 f2 f3 f4 f5 f6 => by
      have hz : ¬ zN σ = 0 := zero_of h1 c4
      have hT : Fr [44, 49, 50, 51, 52] [] M M' := ((hF11.mono (by simp) (by simp)).tr (hF22.mono (by simp) (by simp))).tr (f1.mono (by simp) (by simp))
      have g50 : mI M22 50 = mI M 50 := (hF22.2.1 50 (by decide)).trans (hF11.2.1 50 (by decide))
      refine ⟨hT, by rw [monR, if_neg hz, e22]; rfl, ?_, fun k k1 k2 => by rw [f6 k k1 k2, g22]⟩
      rw [monD, if_neg hz]
      refine ⟨hs.fr hT, w, ⟨lapF_0 dw.1, pass8 w dw, dw.2.2.1, dw.2.2.2⟩, ⟨by rw [f6 5 (by decide) (by decide), g22]; exact V.1, by rw [f6 10 (by decide) (by decide), g22]; exact V.2.1, by rw [hT.2.1 47 (by decide)]; exact V.2.2.1, fun s hs => ?_⟩, fun s hs => ?_, fun h h8 => ?_, ?_, ?_, ?_, ?_, f5⟩
      · rw [f2, f2, if_neg (by omega), if_neg (by omega), g50]; exact V.2.2.2 s hs
      · rw [f2, f2, if_pos (by omega), if_neg (by omega), g50, show (4 * s + 2) / 4 = s by omega]
        exact ⟨D22.1 s hs, (r1 s hs).2⟩
      · rw [f3 h h8]; exact D22.2.1 h h8
      · rw [f6 13 (by decide) (by decide), g22]; exact r3
      · rw [f6 8 (by decide) (by decide), g22]; exact r4
      · rw [hT.2.1 48 (by decide)]; exact r5
      · rw [f4, g22, r6]; rfl) (zS σ + 1) 0 0 M22 (by omega) (by omega) rfl (Fr.rf _ _ _) (fun k => by rw [if_neg (by omega)]))
  · skip
    refine r_bipush (v := -103) dX9_month_7 (by decide) ?_
    exact r_iret dX9_month_9 ⟨_, rfl, Fr.rf _ _ _, by rw [monR, if_pos (one_of h1 c4)], by rw [monD, if_pos (one_of h1 c4)]; exact C, fun _ _ _ => rfl⟩
def rmX9_where : Room := { frames := 3, cells := 0, slots := 0, locals := 78 }
set_option maxHeartbeats 4000000 in
set_option maxRecDepth 100000 in
theorem lp_rwhere (g : Gx) (x : Cx) (P : Int32 → Mm → Prop) (M : Mm) (hs : St M) (σ : Ab) (w : Wf σ) (V : RV1 σ M) (pd dg : Rw) (hp : ∀ t, t < zN σ → bitI (mI M 44 8) t = pd t) (j m : Nat) (hm : m ≤ 60) (hj : j < zS σ) (X : Rw × Rw) (hP : ∀ M' r, Fr [51, 52] [] M M' → r = X.1 j → P r M') : ∀ (n : Nat) (i : Nat) (v : Int32) (M1 : Mm) (ps1 lo1 : Rw), i ≤ m → m - i < n → v = nI i → Fr [51, 52] [] M M1 → RD M1 σ dg lo1 ps1 → (∀ h, h < 8 → 0 ≤ lo1 h) → itF σ pd dg (m - i) ps1 lo1 = X → Vj x g yX9_where cX9_where 5 (Option.some FieldType.int) rmX9_where (Qm x g rmX9_where.cells rmX9_where.slots (pI P)) 0 0 M1 42 [(0, some (.ref (g.1 + 44))), (1, some (.int (nI j))), (2, some (.int (nI m))), (3, some (.int v))] [] := by
  intro n
  induction n with
  | zero => intro i v M1 ps1 lo1 him hn hv hF D1 hl1 ei; omega
  | succ n ih =>
    intro i v M1 ps1 lo1 him hn hv hF D1 hl1 ei
    have hs1 := hs.fr hF
    have V1 := V.fr hF (by simp)
    have g1 : mI M1 44 = mI M 44 := hF.2.1 44 (by decide)
    subst hv
    have hv : nI i = nI i := rfl
    refine r_iload_n dX9_where_42 rfl ?_
    refine r_iload_n dX9_where_43 rfl ?_
    refine r_icmp_ge 66 dX9_where_44 (by decide) (fun c44 => ?_) (fun c44 => ?_)
    · skip
      have ez := lp_ge (n := m) hv rfl c44 him (by omega)
      subst ez
      rw [Nat.sub_self] at ei
      refine r_aload_n dX9_where_66 rfl ?_
      refine r_getR flX9_28_9 rfl (hs1.lt (by decide)) (hs1.T 44 rfl) (hs1.R 44 16 rfl) dX9_where_67 ?_
      refine r_iload_n dX9_where_70 rfl ?_
      refine r_ial (hs1.T 51 rfl) (hs1.lt (by decide)) (ix_nI (n := 8) (by have := w.2.1; omega) (by decide)) dX9_where_71 ?_
      exact r_iret dX9_where_72 ⟨_, rfl, hP M1 _ hF (by rw [D1.1 j hj, ← ei]; rfl)⟩
    · skip
      have hi : i < m := lp_lt (n := m) hv rfl c44 him (by omega)
      refine r_aload_n dX9_where_47 rfl ?_
      refine r_sipush (v := 255) dX9_where_48 (by decide) ?_
      refine r_aload_n dX9_where_51 rfl ?_
      refine r_getI flX9_94_9 rfl (hs1.lt (by decide)) (hs1.T 44 rfl) dX9_where_52 ?_
      refine r_cV2i cvX9_154 (kX9_passA g M1 hs1 σ w V1 pd dg lo1 ps1 D1 hl1 (mI M1 44 8) (by rw [g1]; exact hp)) (hs1.lt (by decide)) (hs1.T 44 rfl) ⟨Nat.le_of_ble_eq_true rfl, Nat.le_of_ble_eq_true rfl⟩ (Nat.le_of_ble_eq_true rfl) ⟨Nat.le_of_ble_eq_true rfl, Nat.le_of_ble_eq_true rfl⟩ dX9_where_55 (fun r55 M55 h55 => ?_)
      obtain ⟨hF55, e55, D55⟩ := h55
      have hs55 := hs1.fr hF55
      refine r_istore dX9_where_58 (by decide) rfl ?_
      refine r_iinc dX9_where_60 rfl rfl rfl ?_
      refine r_goto 42 dX9_where_63 (by decide) ?_
      exact r_lv (lvSc rfl (lvSc rfl (lvSc rfl (lvSc rfl lvS0)))) (ih (i + 1) _ _ (passF σ pd dg lo1 allT ps1 (zN σ)).2 (lapF lo1) (by omega) (by omega) (nI_inc rfl) (hF.tr hF55) D55 (lapF_0 hl1) (by rw [← ei, show m - i = m - (i + 1) + 1 by omega, itF]))
set_option maxHeartbeats 4000000 in
set_option maxRecDepth 100000 in
theorem kX9_where (g : Gx) (M : Mm) (σ : Ab) (δ : Dy) (C : RA σ δ M) (s m : Int32) : Ct g yX9_where cX9_where 5 (Option.some FieldType.int) rmX9_where [.ref (g.1 + 44), .int s, .int m] M (pI fun r M' => Fr [51, 52] [] M M' ∧ r = wheR σ δ s m) := by
  obtain ⟨hs, w, dw, V, r1, r2, r3, r4, r5, r6, r7⟩ := id C
  refine Ct.of rfl (Nat.le_of_ble_eq_true rfl) (fun x => ?_)
  refine r_aload_n dX9_where_0 rfl ?_
  refine r_iload_n dX9_where_1 rfl ?_
  refine r_cV1i cvX9_124 (kX9_isSpoon g M hs (zS σ) w.2.1 V.2.1 s) (hs.lt (by decide)) (hs.T 44 rfl) ⟨Nat.le_of_ble_eq_true rfl, Nat.le_of_ble_eq_true rfl⟩ (Nat.le_of_ble_eq_true rfl) ⟨Nat.le_of_ble_eq_true rfl, Nat.le_of_ble_eq_true rfl⟩ dX9_where_2 (fun z2 M2 h2 => ?_)
  obtain ⟨e2, h2⟩ := h2
  replace e2 := e2.symm
  subst e2
  refine r_if_ne 11 dX9_where_5 (by decide) (fun c5 => ?_) (fun c5 => ?_)
  · skip
    obtain ⟨j, hj, ej⟩ := ix_ex (by have := w.2.1; omega) (one_of h2 c5).1 (one_of h2 c5).2
    have hj8 : j < 8 := Nat.lt_of_lt_of_le hj w.2.1
    have hcl : s.toNatClampNeg = j := by rw [ej]; exact nI_clamp (by omega)
    refine r_iload_n dX9_where_11 rfl ?_
    refine r_i2l dX9_where_12 ?_
    refine r_lconst (v := 0) dX9_where_13 (by decide) ?_
    refine r_ldc2_w (v := 60) dX9_where_14 tw872 ?_
    refine r_cS3i csX9_70 (kX9_in g M m.toInt64 0 60) hs.pos ⟨Nat.le_of_ble_eq_true rfl, Nat.le_of_ble_eq_true rfl⟩ (Nat.le_of_ble_eq_true rfl) ⟨Nat.le_of_ble_eq_true rfl, Nat.le_of_ble_eq_true rfl⟩ dX9_where_17 (fun z17 M17 h17 => ?_)
    obtain ⟨e17, h17⟩ := h17
    replace e17 := e17.symm
    subst e17
    replace h17 := inI 0 60 h17
    refine r_if_ne 26 dX9_where_20 (by decide) (fun c20 => ?_) (fun c20 => ?_)
    · skip
      obtain ⟨mm, hmm, em⟩ := nI_rng (n := 60) (one_of h17 c20).1 (one_of h17 c20).2 (by decide)
      have hcm : m.toNatClampNeg = mm := by rw [em]; exact nI_clamp (by omega)
      refine r_aload_n dX9_where_26 rfl ?_
      refine r_cV0i cvX9_147 (kX9_lacks g M hs) (hs.lt (by decide)) (hs.T 44 rfl) ⟨Nat.le_of_ble_eq_true rfl, Nat.le_of_ble_eq_true rfl⟩ (Nat.le_of_ble_eq_true rfl) ⟨Nat.le_of_ble_eq_true rfl, Nat.le_of_ble_eq_true rfl⟩ dX9_where_27 (fun z27 M27 h27 => ?_)
      obtain ⟨e27, h27⟩ := h27
      replace e27 := e27.symm
      subst e27
      rw [V.1, ite_iff (nI_zero w.1)] at h27
      refine r_if_eq 36 dX9_where_30 (by decide) (fun c30 => ?_) (fun c30 => ?_)
      · skip
        refine r_aload_n dX9_where_36 rfl ?_
        refine r_cV0v cvX9_151 (kX9_begin g M σ δ C) (hs.lt (by decide)) (hs.T 44 rfl) ⟨Nat.le_of_ble_eq_true rfl, Nat.le_of_ble_eq_true rfl⟩ (Nat.le_of_ble_eq_true rfl) ⟨Nat.le_of_ble_eq_true rfl, Nat.le_of_ble_eq_true rfl⟩ dX9_where_37 (fun M37 h37 => ?_)
        obtain ⟨hF37, D37⟩ := h37
        have hs37 := hs.fr hF37
        have V37 := V.fr hF37 (by simp)
        have g37 : mI M37 44 = mI M 44 := hF37.2.1 44 (by decide)
        have q37 : ∀ t, t < zN σ → bitI (mI M37 44 8) t = yq δ t := fun t ht => by rw [g37]; exact r4 t ht
        refine r_iconst (v := 0) dX9_where_40 (by decide) ?_
        refine r_istore_n dX9_where_41 (by decide) rfl ?_
        have ea : wheR σ δ s m = (itF σ (yq δ) (yd δ) mm (yp δ) (yl δ)).1 j := by rw [wheR, if_pos (one_of h2 c5), if_pos (one_of h17 c20), if_neg (zero_of h27 c30), hcl, hcm]
        rw [ea]
        clear h2 h17 ea hcl hcm
        subst ej
        subst em
        exact r_lv (lvSc rfl (lvSc rfl (lvSc rfl (lvSc rfl lvS0)))) (lp_rwhere g x _ M37 hs37 σ w V37 (yq δ) (yd δ) q37 j mm hmm hj (itF σ (yq δ) (yd δ) mm (yp δ) (yl δ)) (fun M' r f e => ⟨hF37.tr f, e⟩) (mm + 1) 0 0 M37 (yp δ) (yl δ) (by omega) (by omega) rfl (Fr.rf _ _ _) D37 dw.1 rfl)
      · skip
        refine r_bipush (v := -103) dX9_where_33 (by decide) ?_
        exact r_iret dX9_where_35 ⟨_, rfl, Fr.rf _ _ _, by rw [wheR, if_pos (one_of h2 c5), if_pos (one_of h17 c20), if_pos (one_of h27 c30)]⟩
    · skip
      refine r_bipush (v := -102) dX9_where_23 (by decide) ?_
      exact r_iret dX9_where_25 ⟨_, rfl, Fr.rf _ _ _, by rw [wheR, if_pos (one_of h2 c5), if_neg (zero_of h17 c20)]⟩
  · skip
    refine r_bipush (v := -101) dX9_where_8 (by decide) ?_
    exact r_iret dX9_where_10 ⟨_, rfl, Fr.rf _ _ _, by rw [wheR, if_neg (zero_of h2 c5)]⟩
def rmX9_stillOf : Room := { frames := 3, cells := 0, slots := 0, locals := 78 }
set_option maxHeartbeats 4000000 in
set_option maxRecDepth 100000 in
theorem lp_rstill (g : Gx) (x : Cx) (P : Int32 → Mm → Prop) (M : Mm) (hs : St M) (σ : Ab) (w : Wf σ) (V : RV1 σ M) (pd dg : Rw) (hp : ∀ t, t < zN σ → bitI (mI M 44 8) t = pd t) (X : Int32) (hP : ∀ M' r, Fr [51, 52] [] M M' → r = X → P r M') : ∀ (n : Nat) (i : Nat) (v : Int32) (M1 : Mm) (ps1 lo1 : Rw), i ≤ 61 → 61 - i < n → v = nI i → Fr [51, 52] [] M M1 → RD M1 σ dg lo1 ps1 → (∀ h, h < 8 → 0 ≤ lo1 h) → stF σ pd dg (61 - i) i ps1 lo1 = X → Vj x g yX9_stillOf cX9_stillOf 2 (Option.some FieldType.int) rmX9_stillOf (Qm x g rmX9_stillOf.cells rmX9_stillOf.slots (pI P)) 0 0 M1 6 [(0, some (.ref (g.1 + 44))), (1, some (.int v))] [] := by
  intro n
  induction n with
  | zero => intro i v M1 ps1 lo1 hi61 hn hv hF D1 hl1 ei; omega
  | succ n ih =>
    intro i v M1 ps1 lo1 hi61 hn hv hF D1 hl1 ei
    have hs1 := hs.fr hF
    have V1 := V.fr hF (by simp)
    have g1 : mI M1 44 = mI M 44 := hF.2.1 44 (by decide)
    subst hv
    have hv : nI i = nI i := rfl
    refine r_iload_n dX9_stillOf_6 rfl ?_
    refine r_bipush (v := 61) dX9_stillOf_7 (by decide) ?_
    refine r_icmp_ge 34 dX9_stillOf_9 (by decide) (fun c9 => ?_) (fun c9 => ?_)
    · skip
      have ez := lp_ge (n := 61) hv rfl c9 hi61 (by decide)
      subst ez
      rw [Nat.sub_self] at ei
      refine r_iconst (v := -1) dX9_stillOf_34 (by decide) ?_
      exact r_iret dX9_stillOf_35 ⟨_, rfl, hP _ _ hF ei⟩
    · skip
      have hi : i < 61 := lp_lt (n := 61) hv rfl c9 hi61 (by decide)
      rw [show 61 - i = 61 - (i + 1) + 1 by omega, stF] at ei
      refine r_aload_n dX9_stillOf_12 rfl ?_
      refine r_sipush (v := 255) dX9_stillOf_13 (by decide) ?_
      refine r_aload_n dX9_stillOf_16 rfl ?_
      refine r_getI flX9_94_9 rfl (hs1.lt (by decide)) (hs1.T 44 rfl) dX9_stillOf_17 ?_
      refine r_cV2i cvX9_154 (kX9_passA g M1 hs1 σ w V1 pd dg lo1 ps1 D1 hl1 (mI M1 44 8) (by rw [g1]; exact hp)) (hs1.lt (by decide)) (hs1.T 44 rfl) ⟨Nat.le_of_ble_eq_true rfl, Nat.le_of_ble_eq_true rfl⟩ (Nat.le_of_ble_eq_true rfl) ⟨Nat.le_of_ble_eq_true rfl, Nat.le_of_ble_eq_true rfl⟩ dX9_stillOf_20 (fun r20 M20 h20 => ?_)
      obtain ⟨hF20, e20, D20⟩ := h20
      have hs20 := hs1.fr hF20
      refine r_if_ne 28 dX9_stillOf_23 (by decide) (fun c23 => ?_) (fun c23 => ?_)
      · skip
        rw [if_neg (by rw [← e20]; exact c23)] at ei
        refine r_iinc dX9_stillOf_28 rfl rfl rfl ?_
        refine r_goto 6 dX9_stillOf_31 (by decide) ?_
        exact r_lv (lvSc rfl (lvSc rfl lvS0)) (ih (i + 1) _ _ (passF σ pd dg lo1 allT ps1 (zN σ)).2 (lapF lo1) (by omega) (by omega) (nI_inc rfl) (hF.tr hF20) D20 (lapF_0 hl1) ei)
      · skip
        rw [if_pos (by rw [← e20]; exact c23)] at ei
        refine r_iload_n dX9_stillOf_26 rfl ?_
        exact r_iret dX9_stillOf_27 ⟨_, rfl, hP _ _ (hF.tr hF20) ei⟩
set_option maxHeartbeats 4000000 in
set_option maxRecDepth 100000 in
theorem kX9_stillOf (g : Gx) (M : Mm) (σ : Ab) (δ : Dy) (C : RA σ δ M) : Ct g yX9_stillOf cX9_stillOf 2 (Option.some FieldType.int) rmX9_stillOf [.ref (g.1 + 44)] M (pI fun r M' => Fr [51, 52] [] M M' ∧ r = stF σ (yq δ) (yd δ) 61 0 (yp δ) (yl δ)) := by
  obtain ⟨hs, w, dw, V, r1, r2, r3, r4, r5, r6, r7⟩ := id C
  refine Ct.of rfl (Nat.le_of_ble_eq_true rfl) (fun x => ?_)
  refine r_aload_n dX9_stillOf_0 rfl ?_
  refine r_cV0v cvX9_151 (kX9_begin g M σ δ C) (hs.lt (by decide)) (hs.T 44 rfl) ⟨Nat.le_of_ble_eq_true rfl, Nat.le_of_ble_eq_true rfl⟩ (Nat.le_of_ble_eq_true rfl) ⟨Nat.le_of_ble_eq_true rfl, Nat.le_of_ble_eq_true rfl⟩ dX9_stillOf_1 (fun M1 h1 => ?_)
  obtain ⟨hF1, D1⟩ := h1
  have hs1 := hs.fr hF1
  have V1 := V.fr hF1 (by simp)
  have g1 : mI M1 44 = mI M 44 := hF1.2.1 44 (by decide)
  have q1 : ∀ t, t < zN σ → bitI (mI M1 44 8) t = yq δ t := fun t ht => by rw [g1]; exact r4 t ht
  refine r_iconst (v := 0) dX9_stillOf_4 (by decide) ?_
  refine r_istore_n dX9_stillOf_5 (by decide) rfl ?_
  exact r_lv (lvSc rfl (lvSc rfl lvS0)) (lp_rstill g x _ M1 hs1 σ w V1 (yq δ) (yd δ) q1 _ (fun M' r f e => ⟨hF1.tr f, e⟩) 62 0 0 M1 (yp δ) (yl δ) (by omega) (by omega) rfl (Fr.rf _ _ _) D1 dw.1 rfl)
def rmX9_still : Room := { frames := 4, cells := 0, slots := 0, locals := 99 }
set_option maxHeartbeats 4000000 in
set_option maxRecDepth 100000 in
theorem kX9_still (g : Gx) (M : Mm) (σ : Ab) (δ : Dy) (C : RA σ δ M) : Ct g yX9_still cX9_still 1 (Option.some FieldType.int) rmX9_still [.ref (g.1 + 44)] M (pI fun r M' => Fr [51, 52] [] M M' ∧ r = stiR σ δ) := by
  obtain ⟨hs, w, dw, V, r1, r2, r3, r4, r5, r6, r7⟩ := id C
  refine Ct.of rfl (Nat.le_of_ble_eq_true rfl) (fun x => ?_)
  refine r_aload_n dX9_still_0 rfl ?_
  refine r_cV0i cvX9_147 (kX9_lacks g M hs) (hs.lt (by decide)) (hs.T 44 rfl) ⟨Nat.le_of_ble_eq_true rfl, Nat.le_of_ble_eq_true rfl⟩ (Nat.le_of_ble_eq_true rfl) ⟨Nat.le_of_ble_eq_true rfl, Nat.le_of_ble_eq_true rfl⟩ dX9_still_1 (fun z1 M1 h1 => ?_)
  obtain ⟨e1, h1⟩ := h1
  replace e1 := e1.symm
  subst e1
  rw [V.1, ite_iff (nI_zero w.1)] at h1
  refine r_if_eq 12 dX9_still_4 (by decide) (fun c4 => ?_) (fun c4 => ?_)
  · skip
    refine r_aload_n dX9_still_12 rfl ?_
    refine r_cV0i cvX9_193 (kX9_stillOf g M σ δ C) (hs.lt (by decide)) (hs.T 44 rfl) ⟨Nat.le_of_ble_eq_true rfl, Nat.le_of_ble_eq_true rfl⟩ (Nat.le_of_ble_eq_true rfl) ⟨Nat.le_of_ble_eq_true rfl, Nat.le_of_ble_eq_true rfl⟩ dX9_still_13 (fun r13 M13 h13 => ?_)
    exact r_iret dX9_still_16 ⟨_, rfl, h13.1, by rw [stiR, if_neg (zero_of h1 c4)]; exact h13.2⟩
  · skip
    refine r_bipush (v := -103) dX9_still_7 (by decide) ?_
    refine r_goto 16 dX9_still_9 (by decide) ?_
    exact r_iret dX9_still_16 ⟨_, rfl, Fr.rf _ _ _, by rw [stiR, if_pos (one_of h1 c4)]⟩
def rmX9_isSeenSo : Room := { frames := 3, cells := 0, slots := 0, locals := 78 }
theorem seen_1 {f h : Rw} {i : Nat} (a : ∀ s, s < i → f s = -1 ∨ f s = h s) (b : f i = -1 ∨ f i = h i) : ∀ s, s < i + 1 → f s = -1 ∨ f s = h s := fun s hs => by
  rcases Nat.lt_or_ge s i with q | q
  · exact a s q
  · rw [show s = i by omega]; exact b
set_option maxHeartbeats 4000000 in
set_option maxRecDepth 100000 in
theorem lp_rseen (g : Gx) (x : Cx) (P : Int32 → Mm → Prop) (M : Mm) (σ : Ab) (δ : Dy) (C : RA σ δ M) (ps : Rw) (hps : ∀ s, s < zS σ → mI M 51 s = ps s) (wh tk : Int32) (hP : ∀ r, ((r = 1 ∧ ∀ s, s < zS σ → ye δ s = -1 ∨ ye δ s = ps s) ∨ (r = 0 ∧ ¬ ∀ s, s < zS σ → ye δ s = -1 ∨ ye δ s = ps s)) → P r M) : ∀ (n : Nat) (i : Nat) (v b : Int32), i ≤ zS σ → zS σ - i < n → v = nI i → ((b = 1 ∧ ∀ s, s < i → ye δ s = -1 ∨ ye δ s = ps s) ∨ (b = 0 ∧ ¬ ∀ s, s < i → ye δ s = -1 ∨ ye δ s = ps s)) → Vj x g yX9_isSeenSo cX9_isSeenSo 5 (Option.some FieldType.boolean) rmX9_isSeenSo (Qm x g rmX9_isSeenSo.cells rmX9_isSeenSo.slots (pI P)) 0 0 M 19 [(0, some (.ref (g.1 + 44))), (1, some (.int wh)), (2, some (.int tk)), (3, some (.int b)), (4, some (.int v))] [] := by
  intro n
  induction n with
  | zero => intro i v b hiS hn hv hb; omega
  | succ n ih =>
    intro i v b hiS hn hv hb
    obtain ⟨hs, w, dw, V, r1, r2, r3, r4, r5, r6, r7⟩ := id C
    subst hv
    have hv : nI i = nI i := rfl
    refine r_iload dX9_isSeenSo_19 rfl ?_
    refine r_aload_n dX9_isSeenSo_21 rfl ?_
    refine r_getI flX9_113_9 rfl (hs.lt (by decide)) (hs.T 44 rfl) dX9_isSeenSo_22 ?_
    refine r_icmp_ge 80 dX9_isSeenSo_25 (by decide) (fun c25 => ?_) (fun c25 => ?_)
    · skip
      have ez := lp_ge (n := zS σ) hv V.2.1 c25 hiS (by have := w.2.1; omega)
      subst ez
      refine r_iload_n dX9_isSeenSo_80 rfl ?_
      exact r_zret (nar_bool (hb.elim (fun z => Or.inr z.1) (fun z => Or.inl z.1))) dX9_isSeenSo_81 ⟨_, rfl, hP _ hb⟩
    · skip
      have hi : i < zS σ := lp_lt (n := zS σ) hv V.2.1 c25 hiS (by have := w.2.1; omega)
      have hi8 : i < 8 := Nat.lt_of_lt_of_le hi w.2.1
      have es : mI M 50 (4 * i + 3) = ye δ i := (r1 i hi).2
      refine r_dia (P := fun u => (u = 1 ∧ ∀ s, s < i + 1 → ye δ s = -1 ∨ ye δ s = ps s) ∨ (u = 0 ∧ ¬ ∀ s, s < i + 1 → ye δ s = -1 ∨ ye δ s = ps s)) 73 (fun u hu => ?_) (fun hJ73 => ?_)
      · skip
        refine r_istore_n dX9_isSeenSo_73 (by decide) rfl ?_
        refine r_iinc dX9_isSeenSo_74 rfl rfl rfl ?_
        refine r_goto 19 dX9_isSeenSo_77 (by decide) ?_
        exact r_lv (lvSc rfl (lvSc rfl (lvSc rfl (lvSc rfl (lvSc rfl lvS0))))) (ih (i + 1) _ _ (by omega) (by omega) (nI_inc rfl) hu)
      · skip
        refine r_iload_n dX9_isSeenSo_28 rfl ?_
        refine r_if_eq 72 dX9_isSeenSo_29 (by decide) (fun c29 => ?_) (fun c29 => ?_)
        · skip
          have hfin : (0 = (1 : Int32) ∧ ∀ s, s < i + 1 → ye δ s = -1 ∨ ye δ s = ps s) ∨ ((0 : Int32) = 0 ∧ ¬ ∀ s, s < i + 1 → ye δ s = -1 ∨ ye δ s = ps s) := Or.inr ⟨rfl, fun z => (hb.resolve_left (fun q => absurd (q.1.symm.trans c29) (by decide))).2 (fun s hs => z s (by omega))⟩
          refine r_iconst (v := 0) dX9_isSeenSo_72 (by decide) ?_
          exact hJ73 _ hfin
        · skip
          have hall := (hb.resolve_right (fun q => c29 q.1)).2
          refine r_aload_n dX9_isSeenSo_32 rfl ?_
          refine r_getR flX9_25_9 rfl (hs.lt (by decide)) (hs.T 44 rfl) (hs.R 44 15 rfl) dX9_isSeenSo_33 ?_
          refine r_iconst (v := 4) dX9_isSeenSo_36 (by decide) ?_
          refine r_iload dX9_isSeenSo_37 rfl ?_
          refine r_imul dX9_isSeenSo_39 ?_
          refine r_iconst (v := 3) dX9_isSeenSo_40 (by decide) ?_
          refine r_iadd dX9_isSeenSo_41 ?_
          refine r_ial (hs.T 50 rfl) (hs.lt (by decide)) (ix4 (c := 3) (by omega) (by decide)) dX9_isSeenSo_42 ?_
          refine r_iconst (v := -1) dX9_isSeenSo_43 (by decide) ?_
          refine r_icmp_eq 68 dX9_isSeenSo_44 (by decide) (fun c44 => ?_) (fun c44 => ?_)
          · skip
            rw [es] at c44
            have hfin : ((1 : Int32) = 1 ∧ ∀ s, s < i + 1 → ye δ s = -1 ∨ ye δ s = ps s) ∨ ((1 : Int32) = 0 ∧ ¬ ∀ s, s < i + 1 → ye δ s = -1 ∨ ye δ s = ps s) := Or.inl ⟨rfl, seen_1 hall (Or.inl c44)⟩
            refine r_iconst (v := 1) dX9_isSeenSo_68 (by decide) ?_
            refine r_goto 73 dX9_isSeenSo_69 (by decide) ?_
            exact hJ73 _ hfin
          · skip
            rw [es] at c44
            refine r_aload_n dX9_isSeenSo_47 rfl ?_
            refine r_getR flX9_25_9 rfl (hs.lt (by decide)) (hs.T 44 rfl) (hs.R 44 15 rfl) dX9_isSeenSo_48 ?_
            refine r_iconst (v := 4) dX9_isSeenSo_51 (by decide) ?_
            refine r_iload dX9_isSeenSo_52 rfl ?_
            refine r_imul dX9_isSeenSo_54 ?_
            refine r_iconst (v := 3) dX9_isSeenSo_55 (by decide) ?_
            refine r_iadd dX9_isSeenSo_56 ?_
            refine r_ial (hs.T 50 rfl) (hs.lt (by decide)) (ix4 (c := 3) (by omega) (by decide)) dX9_isSeenSo_57 ?_
            refine r_aload_n dX9_isSeenSo_58 rfl ?_
            refine r_getR flX9_28_9 rfl (hs.lt (by decide)) (hs.T 44 rfl) (hs.R 44 16 rfl) dX9_isSeenSo_59 ?_
            refine r_iload dX9_isSeenSo_62 rfl ?_
            refine r_ial (hs.T 51 rfl) (hs.lt (by decide)) (ix_nI hi8 (by decide)) dX9_isSeenSo_64 ?_
            refine r_icmp_ne 72 dX9_isSeenSo_65 (by decide) (fun c65 => ?_) (fun c65 => ?_)
            · skip
              rw [es, hps i hi] at c65
              have hfin : (0 = (1 : Int32) ∧ ∀ s, s < i + 1 → ye δ s = -1 ∨ ye δ s = ps s) ∨ ((0 : Int32) = 0 ∧ ¬ ∀ s, s < i + 1 → ye δ s = -1 ∨ ye δ s = ps s) := Or.inr ⟨rfl, fun z => (z i (by omega)).elim c44 c65⟩
              refine r_iconst (v := 0) dX9_isSeenSo_72 (by decide) ?_
              exact hJ73 _ hfin
            · skip
              rw [es, hps i hi] at c65
              have hfin : ((1 : Int32) = 1 ∧ ∀ s, s < i + 1 → ye δ s = -1 ∨ ye δ s = ps s) ∨ ((1 : Int32) = 0 ∧ ¬ ∀ s, s < i + 1 → ye δ s = -1 ∨ ye δ s = ps s) := Or.inl ⟨rfl, seen_1 hall (Or.inr c65)⟩
              refine r_iconst (v := 1) dX9_isSeenSo_68 (by decide) ?_
              refine r_goto 73 dX9_isSeenSo_69 (by decide) ?_
              exact hJ73 _ hfin
set_option maxHeartbeats 4000000 in
set_option maxRecDepth 100000 in
theorem kX9_isSeenSo (g : Gx) (M : Mm) (σ : Ab) (δ : Dy) (C : RA σ δ M) (wh : Int32) : Ct g yX9_isSeenSo cX9_isSeenSo 5 (Option.some FieldType.boolean) rmX9_isSeenSo [.ref (g.1 + 44), .int wh] M (pI fun r M' => Fr [51, 52] [] M M' ∧ ((r = 1 ∧ AS σ δ (fun t => bitI wh t = 1)) ∨ (r = 0 ∧ ¬ AS σ δ (fun t => bitI wh t = 1)))) := by
  obtain ⟨hs, w, dw, V, r1, r2, r3, r4, r5, r6, r7⟩ := id C
  refine Ct.of rfl (Nat.le_of_ble_eq_true rfl) (fun x => ?_)
  refine r_aload_n dX9_isSeenSo_0 rfl ?_
  refine r_cV0v cvX9_151 (kX9_begin g M σ δ C) (hs.lt (by decide)) (hs.T 44 rfl) ⟨Nat.le_of_ble_eq_true rfl, Nat.le_of_ble_eq_true rfl⟩ (Nat.le_of_ble_eq_true rfl) ⟨Nat.le_of_ble_eq_true rfl, Nat.le_of_ble_eq_true rfl⟩ dX9_isSeenSo_1 (fun M1 h1 => ?_)
  obtain ⟨hF1, D1⟩ := h1
  have hs1 := hs.fr hF1
  have V1 := V.fr hF1 (by simp)
  have g1 : mI M1 44 = mI M 44 := hF1.2.1 44 (by decide)
  have q1 : ∀ t, t < zN σ → bitI (mI M1 44 8) t = yq δ t := fun t ht => by rw [g1]; exact r4 t ht
  refine r_aload_n dX9_isSeenSo_4 rfl ?_
  refine r_iload_n dX9_isSeenSo_5 rfl ?_
  refine r_aload_n dX9_isSeenSo_6 rfl ?_
  refine r_getI flX9_94_9 rfl (hs1.lt (by decide)) (hs1.T 44 rfl) dX9_isSeenSo_7 ?_
  refine r_cV2i cvX9_154 (kX9_pass g M1 hs1 σ w V1 (yq δ) (yd δ) (yl δ) (yp δ) D1 dw.1 wh (mI M1 44 8) q1) (hs1.lt (by decide)) (hs1.T 44 rfl) ⟨Nat.le_of_ble_eq_true rfl, Nat.le_of_ble_eq_true rfl⟩ (Nat.le_of_ble_eq_true rfl) ⟨Nat.le_of_ble_eq_true rfl, Nat.le_of_ble_eq_true rfl⟩ dX9_isSeenSo_10 (fun r10 M10 h10 => ?_)
  obtain ⟨hF10, e10, D10⟩ := h10
  have hs10 := hs1.fr hF10
  have hFT := hF1.tr hF10
  refine r_istore_n dX9_isSeenSo_13 (by decide) rfl ?_
  refine r_iconst (v := 1) dX9_isSeenSo_14 (by decide) ?_
  refine r_istore_n dX9_isSeenSo_15 (by decide) rfl ?_
  refine r_iconst (v := 0) dX9_isSeenSo_16 (by decide) ?_
  refine r_istore dX9_isSeenSo_17 (by decide) rfl ?_
  exact r_lv (lvSc rfl (lvSc rfl (lvSc rfl (lvSc rfl (lvSc rfl lvS0))))) (lp_rseen g x _ M10 σ δ (C.fr hFT (by simp)) _ D10.1 wh r10 (fun r h => ⟨hFT, h⟩) (zS σ + 1) 0 0 1 (by omega) (by omega) rfl (Or.inl ⟨rfl, fun s hs => by omega⟩))
def rmX9_whoOf : Room := { frames := 4, cells := 0, slots := 0, locals := 102 }
theorem who_1 {σ : Ab} {δ : Dy} {t : Nat} (h : AS σ δ (fun u => u ≠ t)) : whoB σ δ (t + 1) = whoB σ δ t ||| (1 : Int32) <<< (nI t &&& 31) := by rw [whoB, if_pos h]
theorem who_0 {σ : Ab} {δ : Dy} {t : Nat} (h : ¬ AS σ δ (fun u => u ≠ t)) : whoB σ δ (t + 1) = whoB σ δ t ||| 0 := by rw [whoB, if_neg h]
set_option maxHeartbeats 4000000 in
set_option maxRecDepth 100000 in
theorem lp_rwho (g : Gx) (x : Cx) (M : Mm) (σ : Ab) (δ : Dy) (C : RA σ δ M) : ∀ (n : Nat) (i : Nat) (v b : Int32) (M1 : Mm), i ≤ zN σ → zN σ - i < n → v = nI i → Fr [51, 52] [] M M1 → b = whoB σ δ i → Vj x g yX9_whoOf cX9_whoOf 3 (Option.some FieldType.int) rmX9_whoOf (Qm x g rmX9_whoOf.cells rmX9_whoOf.slots (pI fun r M' => Fr [51, 52] [] M M' ∧ r = whoB σ δ (zN σ))) 0 0 M1 20 [(0, some (.ref (g.1 + 44))), (1, some (.int b)), (2, some (.int v))] [] := by
  intro n
  induction n with
  | zero => intro i v b M1 hiN hn hv hF hb; omega
  | succ n ih =>
    intro i v b M1 hiN hn hv hF hb
    obtain ⟨hs, w, dw, V, r1, r2, r3, r4, r5, r6, r7⟩ := id C
    have hs1 := hs.fr hF
    have g1 : mI M1 44 = mI M 44 := hF.2.1 44 (by decide)
    subst hv
    have hv : nI i = nI i := rfl
    refine r_iload_n dX9_whoOf_20 rfl ?_
    refine r_aload_n dX9_whoOf_21 rfl ?_
    refine r_getI flX9_91_9 rfl (hs1.lt (by decide)) (hs1.T 44 rfl) dX9_whoOf_22 ?_
    refine r_icmp_ge 60 dX9_whoOf_25 (by decide) (fun c25 => ?_) (fun c25 => ?_)
    · skip
      rw [g1] at c25
      have ez := lp_ge (n := zN σ) hv V.1 c25 hiN (by have := w.1; omega)
      subst ez
      refine r_iload_n dX9_whoOf_60 rfl ?_
      exact r_iret dX9_whoOf_61 ⟨_, rfl, hF, hb⟩
    · skip
      rw [g1] at c25
      have hi : i < zN σ := lp_lt (n := zN σ) hv V.1 c25 hiN (by have := w.1; omega)
      have hi8 : i < 8 := Nat.lt_of_lt_of_le hi w.1
      have hag : AS σ δ (fun t => bitI (255 &&& (((1 : Int32) <<< (nI i &&& 31)) ^^^ -1)) t = 1) ↔ AS σ δ (fun u => u ≠ i) := AS_congr (fun t ht => bitno0 i hi8 t (by have := w.1; omega))
      refine r_iload_n dX9_whoOf_28 rfl ?_
      refine r_aload_n dX9_whoOf_29 rfl ?_
      refine r_sipush (v := 255) dX9_whoOf_30 (by decide) ?_
      refine r_iconst (v := 1) dX9_whoOf_33 (by decide) ?_
      refine r_iload_n dX9_whoOf_34 rfl ?_
      refine r_ishl dX9_whoOf_35 ?_
      refine r_iconst (v := -1) dX9_whoOf_36 (by decide) ?_
      refine r_ixor dX9_whoOf_37 ?_
      refine r_iand dX9_whoOf_38 ?_
      refine r_cV1i cvX9_196 (kX9_isSeenSo g M1 σ δ (C.fr hF (by simp)) (255 &&& (((1 : Int32) <<< (nI i &&& 31)) ^^^ -1))) (hs1.lt (by decide)) (hs1.T 44 rfl) ⟨Nat.le_of_ble_eq_true rfl, Nat.le_of_ble_eq_true rfl⟩ (Nat.le_of_ble_eq_true rfl) ⟨Nat.le_of_ble_eq_true rfl, Nat.le_of_ble_eq_true rfl⟩ dX9_whoOf_39 (fun r39 M39 h39 => ?_)
      obtain ⟨hF39, h39⟩ := h39
      rw [hag] at h39
      have hs39 := hs1.fr hF39
      refine r_if_eq 51 dX9_whoOf_42 (by decide) (fun c42 => ?_) (fun c42 => ?_)
      · skip
        refine r_iconst (v := 0) dX9_whoOf_51 (by decide) ?_
        refine r_ior dX9_whoOf_52 ?_
        refine r_istore_n dX9_whoOf_53 (by decide) rfl ?_
        refine r_iinc dX9_whoOf_54 rfl rfl rfl ?_
        refine r_goto 20 dX9_whoOf_57 (by decide) ?_
        exact r_lv (lvSc rfl (lvSc rfl (lvSc rfl lvS0))) (ih (i + 1) _ _ _ (by omega) (by omega) (nI_inc rfl) (hF.tr hF39) (by rw [hb, who_0 (h39.resolve_left (fun q => absurd (q.1.symm.trans c42) (by decide))).2]))
      · skip
        refine r_iconst (v := 1) dX9_whoOf_45 (by decide) ?_
        refine r_iload_n dX9_whoOf_46 rfl ?_
        refine r_ishl dX9_whoOf_47 ?_
        refine r_goto 52 dX9_whoOf_48 (by decide) ?_
        refine r_ior dX9_whoOf_52 ?_
        refine r_istore_n dX9_whoOf_53 (by decide) rfl ?_
        refine r_iinc dX9_whoOf_54 rfl rfl rfl ?_
        refine r_goto 20 dX9_whoOf_57 (by decide) ?_
        exact r_lv (lvSc rfl (lvSc rfl (lvSc rfl lvS0))) (ih (i + 1) _ _ _ (by omega) (by omega) (nI_inc rfl) (hF.tr hF39) (by rw [hb, who_1 (h39.resolve_right (fun q => c42 q.1)).2]))
set_option maxHeartbeats 4000000 in
set_option maxRecDepth 100000 in
theorem kX9_whoOf (g : Gx) (M : Mm) (σ : Ab) (δ : Dy) (C : RA σ δ M) : Ct g yX9_whoOf cX9_whoOf 3 (Option.some FieldType.int) rmX9_whoOf [.ref (g.1 + 44)] M (pI fun r M' => Fr [51, 52] [] M M' ∧ r = whoB σ δ (zN σ)) := by
  obtain ⟨hs, w, dw, V, r1, r2, r3, r4, r5, r6, r7⟩ := id C
  refine Ct.of rfl (Nat.le_of_ble_eq_true rfl) (fun x => ?_)
  refine r_aload_n dX9_whoOf_0 rfl ?_
  refine r_sipush (v := 255) dX9_whoOf_1 (by decide) ?_
  refine r_cV1i cvX9_196 (kX9_isSeenSo g M σ δ C 255) (hs.lt (by decide)) (hs.T 44 rfl) ⟨Nat.le_of_ble_eq_true rfl, Nat.le_of_ble_eq_true rfl⟩ (Nat.le_of_ble_eq_true rfl) ⟨Nat.le_of_ble_eq_true rfl, Nat.le_of_ble_eq_true rfl⟩ dX9_whoOf_4 (fun r4 M4 h4 => ?_)
  obtain ⟨hF4, h4⟩ := h4
  have hag : AS σ δ (fun t => bitI 255 t = 1) ↔ AS σ δ allT := AS_congr (fun t ht => ⟨fun _ => trivial, fun _ => bit255 (by have := w.1; omega)⟩)
  rw [hag] at h4
  have hs4 := hs.fr hF4
  refine r_if_eq 16 dX9_whoOf_7 (by decide) (fun c7 => ?_) (fun c7 => ?_)
  · skip
    refine r_iconst (v := 0) dX9_whoOf_16 (by decide) ?_
    refine r_istore_n dX9_whoOf_17 (by decide) rfl ?_
    refine r_iconst (v := 0) dX9_whoOf_18 (by decide) ?_
    refine r_istore_n dX9_whoOf_19 (by decide) rfl ?_
    exact r_lv (lvSc rfl (lvSc rfl (lvSc rfl lvS0))) (lp_rwho g x M σ δ C (zN σ + 1) 0 0 _ M4 (by omega) (by omega) rfl hF4 (by rw [whoB, if_neg (h4.resolve_left (fun q => absurd (q.1.symm.trans c7) (by decide))).2]))
  · skip
    refine r_sipush (v := 256) dX9_whoOf_10 (by decide) ?_
    refine r_goto 17 dX9_whoOf_13 (by decide) ?_
    refine r_istore_n dX9_whoOf_17 (by decide) rfl ?_
    refine r_iconst (v := 0) dX9_whoOf_18 (by decide) ?_
    refine r_istore_n dX9_whoOf_19 (by decide) rfl ?_
    exact r_lv (lvSc rfl (lvSc rfl (lvSc rfl lvS0))) (lp_rwho g x M σ δ C (zN σ + 1) 0 0 _ M4 (by omega) (by omega) rfl hF4 (by rw [whoB, if_pos (h4.resolve_right (fun q => c7 q.1)).2]))
def rmX9_who : Room := { frames := 5, cells := 0, slots := 0, locals := 124 }
set_option maxHeartbeats 4000000 in
set_option maxRecDepth 100000 in
theorem kX9_who (g : Gx) (M : Mm) (σ : Ab) (δ : Dy) (C : RA σ δ M) : Ct g yX9_who cX9_who 1 (Option.some FieldType.int) rmX9_who [.ref (g.1 + 44)] M (pI fun r M' => Fr [51, 52] [] M M' ∧ r = whoR σ δ) := by
  obtain ⟨hs, w, dw, V, r1, r2, r3, r4, r5, r6, r7⟩ := id C
  refine Ct.of rfl (Nat.le_of_ble_eq_true rfl) (fun x => ?_)
  refine r_aload_n dX9_who_0 rfl ?_
  refine r_cV0i cvX9_147 (kX9_lacks g M hs) (hs.lt (by decide)) (hs.T 44 rfl) ⟨Nat.le_of_ble_eq_true rfl, Nat.le_of_ble_eq_true rfl⟩ (Nat.le_of_ble_eq_true rfl) ⟨Nat.le_of_ble_eq_true rfl, Nat.le_of_ble_eq_true rfl⟩ dX9_who_1 (fun z1 M1 h1 => ?_)
  obtain ⟨e1, h1⟩ := h1
  replace e1 := e1.symm
  subst e1
  rw [V.1, ite_iff (nI_zero w.1)] at h1
  refine r_if_eq 12 dX9_who_4 (by decide) (fun c4 => ?_) (fun c4 => ?_)
  · skip
    refine r_aload_n dX9_who_12 rfl ?_
    refine r_cV0i cvX9_199 (kX9_whoOf g M σ δ C) (hs.lt (by decide)) (hs.T 44 rfl) ⟨Nat.le_of_ble_eq_true rfl, Nat.le_of_ble_eq_true rfl⟩ (Nat.le_of_ble_eq_true rfl) ⟨Nat.le_of_ble_eq_true rfl, Nat.le_of_ble_eq_true rfl⟩ dX9_who_13 (fun r13 M13 h13 => ?_)
    exact r_iret dX9_who_16 ⟨_, rfl, h13.1, by rw [whoR, if_neg (zero_of h1 c4)]; exact h13.2⟩
  · skip
    refine r_bipush (v := -103) dX9_who_7 (by decide) ?_
    refine r_goto 16 dX9_who_9 (by decide) ?_
    exact r_iret dX9_who_16 ⟨_, rfl, Fr.rf _ _ _, by rw [whoR, if_pos (one_of h1 c4)]⟩
