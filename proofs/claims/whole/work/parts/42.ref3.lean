/-! the reference: sums, months -/
theorem inI {v r : Int32} (lo hi : Int32) (h : r = if lo.toInt64 ≤ v.toInt64 ∧ v.toInt64 ≤ hi.toInt64 then 1 else 0) : r = if lo ≤ v ∧ v ≤ hi then 1 else 0 := by
  rw [h]; exact ite_iff in_int
theorem RV1.of44 {σ : Ab} {M M' : Mm} (V : RV1 σ M) (e47 : mI M' 47 = mI M 47) (e50 : mI M' 50 = mI M 50) (e5 : mI M' 44 5 = mI M 44 5) (e10 : mI M' 44 10 = mI M 44 10) : RV1 σ M' := by
  unfold RV1
  rw [e47, e50, e5, e10]
  exact V
theorem bit255 {t : Nat} (h : t < 8) : bitI 255 t = 1 := by
  rcases (show t = 0 ∨ t = 1 ∨ t = 2 ∨ t = 3 ∨ t = 4 ∨ t = 5 ∨ t = 6 ∨ t = 7 by omega) with e | e | e | e | e | e | e | e <;> subst e <;> decide
theorem bitno0 : ∀ t, t < 8 → ∀ u, u < 8 → (bitI (255 &&& (((1 : Int32) <<< (nI t &&& 31)) ^^^ -1)) u = 1 ↔ u ≠ t) := by decide +kernel
theorem kX9_passA (g : Gx) (M : Mm) (hs : St M) (σ : Ab) (w : Wf σ) (V : RV1 σ M) (pd dg lo ps : Rw) (D : RD M σ dg lo ps) (hlo : ∀ h, h < 8 → 0 ≤ lo h) (p : Int32) (hp : ∀ t, t < zN σ → bitI p t = pd t) : Ct g yX9_pass cX9_pass 6 (some .int) rmX9_pass [.ref (g.1 + 44), .int 255, .int p] M (pI fun r M' => Fr [51, 52] [] M M' ∧ r = (passF σ pd dg lo allT ps (zN σ)).1 ∧ RD M' σ dg (lapF lo) (passF σ pd dg lo allT ps (zN σ)).2) := by
  have h := kX9_pass g M hs σ w V pd dg lo ps D hlo 255 p hp
  rw [passF_congr (cn := allT) (fun t ht => ⟨fun _ => trivial, fun _ => bit255 (by have := w.1; omega)⟩)] at h
  exact h
def rmX9_inHouse : Room := { frames := 0, cells := 0, slots := 0, locals := 0 }
set_option maxHeartbeats 4000000 in
set_option maxRecDepth 100000 in
theorem lp_rinHouse (g : Gx) (x : Cx) (M : Mm) (σ : Ab) (δ : Dy) (C : RA σ δ M) (ps : Rw) (hps : ∀ s, s < zS σ → mI M 51 s = ps s) (h : Int32) : ∀ (n : Nat) (i : Nat) (v b : Int32), i ≤ zS σ → zS σ - i < n → v = nI i → b = sumF (fun s => if ps s = h then zw σ s else 0) i → Vj x g yX9_inHouse cX9_inHouse 4 (Option.some FieldType.int) rmX9_inHouse (Qm x g rmX9_inHouse.cells rmX9_inHouse.slots (pI fun r M' => M' = M ∧ r = sumF (fun s => if ps s = h then zw σ s else 0) (zS σ))) 0 0 M 4 [(0, some (.ref (g.1 + 44))), (1, some (.int h)), (2, some (.int b)), (3, some (.int v))] [] := by
  intro n
  induction n with
  | zero => intro i v b hiS hn hv hb; omega
  | succ n ih =>
    intro i v b hiS hn hv hb
    obtain ⟨hs, w, dw, V, r1, r2, r3, r4, r5, r6, r7⟩ := id C
    subst hv
    have hv : nI i = nI i := rfl
    refine r_iload_n dX9_inHouse_4 rfl ?_
    refine r_aload_n dX9_inHouse_5 rfl ?_
    refine r_getI flX9_113_9 rfl (hs.lt (by decide)) (hs.T 44 rfl) dX9_inHouse_6 ?_
    refine r_icmp_ge 43 dX9_inHouse_9 (by decide) (fun c9 => ?_) (fun c9 => ?_)
    · skip
      have e0 := lp_ge (n := zS σ) hv V.2.1 c9 hiS (by have := w.2.1; omega)
      subst e0
      refine r_iload_n dX9_inHouse_43 rfl ?_
      exact r_iret dX9_inHouse_44 ⟨_, rfl, rfl, hb⟩
    · skip
      have hi : i < zS σ := lp_lt (n := zS σ) hv V.2.1 c9 hiS (by have := w.2.1; omega)
      have hi8 : i < 8 := Nat.lt_of_lt_of_le hi w.2.1
      refine r_iload_n dX9_inHouse_12 rfl ?_
      refine r_dia (P := fun u => u = (fun s => if ps s = h then zw σ s else 0) i) 35 (fun u hu => ?_) (fun hJ35 => ?_)
      · skip
        refine r_iadd dX9_inHouse_35 ?_
        refine r_istore_n dX9_inHouse_36 (by decide) rfl ?_
        refine r_iinc dX9_inHouse_37 rfl rfl rfl ?_
        refine r_goto 4 dX9_inHouse_40 (by decide) ?_
        exact r_lv (lvSc rfl (lvSc rfl (lvSc rfl (lvSc rfl lvS0)))) (ih (i + 1) _ _ (by omega) (by omega) (nI_inc rfl) (by rw [sumF, hb, hu]))
      · skip
        refine r_aload_n dX9_inHouse_13 rfl ?_
        refine r_getR flX9_28_9 rfl (hs.lt (by decide)) (hs.T 44 rfl) (hs.R 44 16 rfl) dX9_inHouse_14 ?_
        refine r_iload_n dX9_inHouse_17 rfl ?_
        refine r_ial (hs.T 51 rfl) (hs.lt (by decide)) (ix_nI hi8 (by decide)) dX9_inHouse_18 ?_
        refine r_iload_n dX9_inHouse_19 rfl ?_
        refine r_icmp_ne 34 dX9_inHouse_20 (by decide) (fun c20 => ?_) (fun c20 => ?_)
        · skip
          rw [hps i hi] at c20
          have hfin : (0 : Int32) = (fun s => if ps s = h then zw σ s else 0) i := by
            show _ = ite _ _ _
            rw [if_neg c20]
          refine r_iconst (v := 0) dX9_inHouse_34 (by decide) ?_
          exact hJ35 _ hfin
        · skip
          rw [hps i hi] at c20
          have hfin : mI M 50 (4 * i) = (fun s => if ps s = h then zw σ s else 0) i := by
            show _ = ite _ _ _
            rw [if_pos c20]; exact (V.2.2.2 i hi).1
          refine r_aload_n dX9_inHouse_23 rfl ?_
          refine r_getR flX9_25_9 rfl (hs.lt (by decide)) (hs.T 44 rfl) (hs.R 44 15 rfl) dX9_inHouse_24 ?_
          refine r_iconst (v := 4) dX9_inHouse_27 (by decide) ?_
          refine r_iload_n dX9_inHouse_28 rfl ?_
          refine r_imul dX9_inHouse_29 ?_
          refine r_ial (hs.T 50 rfl) (hs.lt (by decide)) (ix40 (by omega) (by decide)) dX9_inHouse_30 ?_
          refine r_goto 35 dX9_inHouse_31 (by decide) ?_
          exact hJ35 _ hfin
set_option maxHeartbeats 4000000 in
set_option maxRecDepth 100000 in
theorem kX9_inHouse (g : Gx) (M : Mm) (σ : Ab) (δ : Dy) (C : RA σ δ M) (ps : Rw) (hps : ∀ s, s < zS σ → mI M 51 s = ps s) (h : Int32) : Ct g yX9_inHouse cX9_inHouse 4 (Option.some FieldType.int) rmX9_inHouse [.ref (g.1 + 44), .int h] M (pI fun r M' => M' = M ∧ r = sumF (fun s => if ps s = h then zw σ s else 0) (zS σ)) := by
  refine Ct.of rfl (Nat.le_of_ble_eq_true rfl) (fun x => ?_)
  refine r_iconst (v := 0) dX9_inHouse_0 (by decide) ?_
  refine r_istore_n dX9_inHouse_1 (by decide) rfl ?_
  refine r_iconst (v := 0) dX9_inHouse_2 (by decide) ?_
  refine r_istore_n dX9_inHouse_3 (by decide) rfl ?_
  exact r_lv (lvSc rfl (lvSc rfl (lvSc rfl (lvSc rfl lvS0)))) (lp_rinHouse g x M σ δ C ps hps h (zS σ + 1) 0 0 0 (by omega) (by omega) rfl rfl)
def rmX9_worthOf : Room := { frames := 0, cells := 0, slots := 0, locals := 0 }
set_option maxHeartbeats 4000000 in
set_option maxRecDepth 100000 in
theorem lp_rworthOf (g : Gx) (x : Cx) (M : Mm) (σ : Ab) (δ : Dy) (C : RA σ δ M) (h : Int32) : ∀ (n : Nat) (i : Nat) (v b : Int32), i ≤ zS σ → zS σ - i < n → v = nI i → b = sumF (fun s => if yp δ s = h then zw σ s else 0) i → Vj x g yX9_worthOf cX9_worthOf 4 (Option.some FieldType.int) rmX9_worthOf (Qm x g rmX9_worthOf.cells rmX9_worthOf.slots (pI fun r M' => M' = M ∧ r = sumF (fun s => if yp δ s = h then zw σ s else 0) (zS σ))) 0 0 M 4 [(0, some (.ref (g.1 + 44))), (1, some (.int h)), (2, some (.int b)), (3, some (.int v))] [] := by
  intro n
  induction n with
  | zero => intro i v b hiS hn hv hb; omega
  | succ n ih =>
    intro i v b hiS hn hv hb
    obtain ⟨hs, w, dw, V, r1, r2, r3, r4, r5, r6, r7⟩ := id C
    subst hv
    have hv : nI i = nI i := rfl
    refine r_iload_n dX9_worthOf_4 rfl ?_
    refine r_aload_n dX9_worthOf_5 rfl ?_
    refine r_getI flX9_113_9 rfl (hs.lt (by decide)) (hs.T 44 rfl) dX9_worthOf_6 ?_
    refine r_icmp_ge 47 dX9_worthOf_9 (by decide) (fun c9 => ?_) (fun c9 => ?_)
    · skip
      have e0 := lp_ge (n := zS σ) hv V.2.1 c9 hiS (by have := w.2.1; omega)
      subst e0
      refine r_iload_n dX9_worthOf_47 rfl ?_
      exact r_iret dX9_worthOf_48 ⟨_, rfl, rfl, hb⟩
    · skip
      have hi : i < zS σ := lp_lt (n := zS σ) hv V.2.1 c9 hiS (by have := w.2.1; omega)
      have hi8 : i < 8 := Nat.lt_of_lt_of_le hi w.2.1
      refine r_iload_n dX9_worthOf_12 rfl ?_
      refine r_dia (P := fun u => u = (fun s => if yp δ s = h then zw σ s else 0) i) 39 (fun u hu => ?_) (fun hJ39 => ?_)
      · skip
        refine r_iadd dX9_worthOf_39 ?_
        refine r_istore_n dX9_worthOf_40 (by decide) rfl ?_
        refine r_iinc dX9_worthOf_41 rfl rfl rfl ?_
        refine r_goto 4 dX9_worthOf_44 (by decide) ?_
        exact r_lv (lvSc rfl (lvSc rfl (lvSc rfl (lvSc rfl lvS0)))) (ih (i + 1) _ _ (by omega) (by omega) (nI_inc rfl) (by rw [sumF, hb, hu]))
      · skip
        refine r_aload_n dX9_worthOf_13 rfl ?_
        refine r_getR flX9_25_9 rfl (hs.lt (by decide)) (hs.T 44 rfl) (hs.R 44 15 rfl) dX9_worthOf_14 ?_
        refine r_iconst (v := 4) dX9_worthOf_17 (by decide) ?_
        refine r_iload_n dX9_worthOf_18 rfl ?_
        refine r_imul dX9_worthOf_19 ?_
        refine r_iconst (v := 2) dX9_worthOf_20 (by decide) ?_
        refine r_iadd dX9_worthOf_21 ?_
        refine r_ial (hs.T 50 rfl) (hs.lt (by decide)) (ix4 (c := 2) (by omega) (by decide)) dX9_worthOf_22 ?_
        refine r_iload_n dX9_worthOf_23 rfl ?_
        refine r_icmp_ne 38 dX9_worthOf_24 (by decide) (fun c24 => ?_) (fun c24 => ?_)
        · skip
          rw [show mI M 50 (4 * i + 2) = _ from (r1 i hi).1] at c24
          have hfin : (0 : Int32) = (fun s => if yp δ s = h then zw σ s else 0) i := by
            show _ = ite _ _ _
            rw [if_neg c24]
          refine r_iconst (v := 0) dX9_worthOf_38 (by decide) ?_
          exact hJ39 _ hfin
        · skip
          rw [show mI M 50 (4 * i + 2) = _ from (r1 i hi).1] at c24
          have hfin : mI M 50 (4 * i) = (fun s => if yp δ s = h then zw σ s else 0) i := by
            show _ = ite _ _ _
            rw [if_pos c24]; exact (V.2.2.2 i hi).1
          refine r_aload_n dX9_worthOf_27 rfl ?_
          refine r_getR flX9_25_9 rfl (hs.lt (by decide)) (hs.T 44 rfl) (hs.R 44 15 rfl) dX9_worthOf_28 ?_
          refine r_iconst (v := 4) dX9_worthOf_31 (by decide) ?_
          refine r_iload_n dX9_worthOf_32 rfl ?_
          refine r_imul dX9_worthOf_33 ?_
          refine r_ial (hs.T 50 rfl) (hs.lt (by decide)) (ix40 (by omega) (by decide)) dX9_worthOf_34 ?_
          refine r_goto 39 dX9_worthOf_35 (by decide) ?_
          exact hJ39 _ hfin
set_option maxHeartbeats 4000000 in
set_option maxRecDepth 100000 in
theorem kX9_worthOf (g : Gx) (M : Mm) (σ : Ab) (δ : Dy) (C : RA σ δ M) (h : Int32) : Ct g yX9_worthOf cX9_worthOf 4 (Option.some FieldType.int) rmX9_worthOf [.ref (g.1 + 44), .int h] M (pI fun r M' => M' = M ∧ r = sumF (fun s => if yp δ s = h then zw σ s else 0) (zS σ)) := by
  refine Ct.of rfl (Nat.le_of_ble_eq_true rfl) (fun x => ?_)
  refine r_iconst (v := 0) dX9_worthOf_0 (by decide) ?_
  refine r_istore_n dX9_worthOf_1 (by decide) rfl ?_
  refine r_iconst (v := 0) dX9_worthOf_2 (by decide) ?_
  refine r_istore_n dX9_worthOf_3 (by decide) rfl ?_
  exact r_lv (lvSc rfl (lvSc rfl (lvSc rfl (lvSc rfl lvS0)))) (lp_rworthOf g x M σ δ C h (zS σ + 1) 0 0 0 (by omega) (by omega) rfl rfl)
def rmX9_owesOf : Room := { frames := 0, cells := 0, slots := 0, locals := 0 }
set_option maxHeartbeats 4000000 in
set_option maxRecDepth 100000 in
theorem lp_rowesOf (g : Gx) (x : Cx) (M : Mm) (σ : Ab) (δ : Dy) (C : RA σ δ M) (p q : Int32) : ∀ (n : Nat) (i : Nat) (v b : Int32), i ≤ zS σ → zS σ - i < n → v = nI i → b = sumF (fun s => if yp δ s = p ∧ zo σ s = q then zw σ s else 0) i → Vj x g yX9_owesOf cX9_owesOf 5 (Option.some FieldType.int) rmX9_owesOf (Qm x g rmX9_owesOf.cells rmX9_owesOf.slots (pI fun r M' => M' = M ∧ r = sumF (fun s => if yp δ s = p ∧ zo σ s = q then zw σ s else 0) (zS σ))) 0 0 M 5 [(0, some (.ref (g.1 + 44))), (1, some (.int p)), (2, some (.int q)), (3, some (.int b)), (4, some (.int v))] [] := by
  intro n
  induction n with
  | zero => intro i v b hiS hn hv hb; omega
  | succ n ih =>
    intro i v b hiS hn hv hb
    obtain ⟨hs, w, dw, V, r1, r2, r3, r4, r5, r6, r7⟩ := id C
    subst hv
    have hv : nI i = nI i := rfl
    refine r_iload dX9_owesOf_5 rfl ?_
    refine r_aload_n dX9_owesOf_7 rfl ?_
    refine r_getI flX9_113_9 rfl (hs.lt (by decide)) (hs.T 44 rfl) dX9_owesOf_8 ?_
    refine r_icmp_ge 66 dX9_owesOf_11 (by decide) (fun c11 => ?_) (fun c11 => ?_)
    · skip
      have e0 := lp_ge (n := zS σ) hv V.2.1 c11 hiS (by have := w.2.1; omega)
      subst e0
      refine r_iload_n dX9_owesOf_66 rfl ?_
      exact r_iret dX9_owesOf_67 ⟨_, rfl, rfl, hb⟩
    · skip
      have hi : i < zS σ := lp_lt (n := zS σ) hv V.2.1 c11 hiS (by have := w.2.1; omega)
      have hi8 : i < 8 := Nat.lt_of_lt_of_le hi w.2.1
      refine r_iload_n dX9_owesOf_14 rfl ?_
      refine r_dia (P := fun u => u = (fun s => if yp δ s = p ∧ zo σ s = q then zw σ s else 0) i) 58 (fun u hu => ?_) (fun hJ58 => ?_)
      · skip
        refine r_iadd dX9_owesOf_58 ?_
        refine r_istore_n dX9_owesOf_59 (by decide) rfl ?_
        refine r_iinc dX9_owesOf_60 rfl rfl rfl ?_
        refine r_goto 5 dX9_owesOf_63 (by decide) ?_
        exact r_lv (lvSc rfl (lvSc rfl (lvSc rfl (lvSc rfl (lvSc rfl lvS0))))) (ih (i + 1) _ _ (by omega) (by omega) (nI_inc rfl) (by rw [sumF, hb, hu]))
      · skip
        refine r_aload_n dX9_owesOf_15 rfl ?_
        refine r_getR flX9_25_9 rfl (hs.lt (by decide)) (hs.T 44 rfl) (hs.R 44 15 rfl) dX9_owesOf_16 ?_
        refine r_iconst (v := 4) dX9_owesOf_19 (by decide) ?_
        refine r_iload dX9_owesOf_20 rfl ?_
        refine r_imul dX9_owesOf_22 ?_
        refine r_iconst (v := 2) dX9_owesOf_23 (by decide) ?_
        refine r_iadd dX9_owesOf_24 ?_
        refine r_ial (hs.T 50 rfl) (hs.lt (by decide)) (ix4 (c := 2) (by omega) (by decide)) dX9_owesOf_25 ?_
        refine r_iload_n dX9_owesOf_26 rfl ?_
        refine r_icmp_ne 57 dX9_owesOf_27 (by decide) (fun c27 => ?_) (fun c27 => ?_)
        · skip
          rw [show mI M 50 (4 * i + 2) = _ from (r1 i hi).1] at c27
          have hfin : (0 : Int32) = (fun s => if yp δ s = p ∧ zo σ s = q then zw σ s else 0) i := by
            show _ = ite _ _ _
            rw [if_neg (fun z => c27 z.1)]
          refine r_iconst (v := 0) dX9_owesOf_57 (by decide) ?_
          exact hJ58 _ hfin
        · skip
          rw [show mI M 50 (4 * i + 2) = _ from (r1 i hi).1] at c27
          refine r_aload_n dX9_owesOf_30 rfl ?_
          refine r_getR flX9_25_9 rfl (hs.lt (by decide)) (hs.T 44 rfl) (hs.R 44 15 rfl) dX9_owesOf_31 ?_
          refine r_iconst (v := 4) dX9_owesOf_34 (by decide) ?_
          refine r_iload dX9_owesOf_35 rfl ?_
          refine r_imul dX9_owesOf_37 ?_
          refine r_iconst (v := 1) dX9_owesOf_38 (by decide) ?_
          refine r_iadd dX9_owesOf_39 ?_
          refine r_ial (hs.T 50 rfl) (hs.lt (by decide)) (ix4 (c := 1) (by omega) (by decide)) dX9_owesOf_40 ?_
          refine r_iload_n dX9_owesOf_41 rfl ?_
          refine r_icmp_ne 57 dX9_owesOf_42 (by decide) (fun c42 => ?_) (fun c42 => ?_)
          · skip
            rw [show mI M 50 (4 * i + 1) = _ from (V.2.2.2 i hi).2] at c42
            have hfin : (0 : Int32) = (fun s => if yp δ s = p ∧ zo σ s = q then zw σ s else 0) i := by
              show _ = ite _ _ _
              rw [if_neg (fun z => c42 z.2)]
            refine r_iconst (v := 0) dX9_owesOf_57 (by decide) ?_
            exact hJ58 _ hfin
          · skip
            rw [show mI M 50 (4 * i + 1) = _ from (V.2.2.2 i hi).2] at c42
            have hfin : mI M 50 (4 * i) = (fun s => if yp δ s = p ∧ zo σ s = q then zw σ s else 0) i := by
              show _ = ite _ _ _
              rw [if_pos ⟨c27, c42⟩]; exact (V.2.2.2 i hi).1
            refine r_aload_n dX9_owesOf_45 rfl ?_
            refine r_getR flX9_25_9 rfl (hs.lt (by decide)) (hs.T 44 rfl) (hs.R 44 15 rfl) dX9_owesOf_46 ?_
            refine r_iconst (v := 4) dX9_owesOf_49 (by decide) ?_
            refine r_iload dX9_owesOf_50 rfl ?_
            refine r_imul dX9_owesOf_52 ?_
            refine r_ial (hs.T 50 rfl) (hs.lt (by decide)) (ix40 (by omega) (by decide)) dX9_owesOf_53 ?_
            refine r_goto 58 dX9_owesOf_54 (by decide) ?_
            exact hJ58 _ hfin
set_option maxHeartbeats 4000000 in
set_option maxRecDepth 100000 in
theorem kX9_owesOf (g : Gx) (M : Mm) (σ : Ab) (δ : Dy) (C : RA σ δ M) (p q : Int32) : Ct g yX9_owesOf cX9_owesOf 5 (Option.some FieldType.int) rmX9_owesOf [.ref (g.1 + 44), .int p, .int q] M (pI fun r M' => M' = M ∧ r = sumF (fun s => if yp δ s = p ∧ zo σ s = q then zw σ s else 0) (zS σ)) := by
  refine Ct.of rfl (Nat.le_of_ble_eq_true rfl) (fun x => ?_)
  refine r_iconst (v := 0) dX9_owesOf_0 (by decide) ?_
  refine r_istore_n dX9_owesOf_1 (by decide) rfl ?_
  refine r_iconst (v := 0) dX9_owesOf_2 (by decide) ?_
  refine r_istore dX9_owesOf_3 (by decide) rfl ?_
  exact r_lv (lvSc rfl (lvSc rfl (lvSc rfl (lvSc rfl (lvSc rfl lvS0))))) (lp_rowesOf g x M σ δ C p q (zS σ + 1) 0 0 0 (by omega) (by omega) rfl rfl)
def rmX9_worth : Room := { frames := 2, cells := 0, slots := 0, locals := 45 }
set_option maxHeartbeats 4000000 in
set_option maxRecDepth 100000 in
theorem kX9_worth (g : Gx) (M : Mm) (σ : Ab) (δ : Dy) (C : RA σ δ M) (h : Int32) : Ct g yX9_worth cX9_worth 2 (Option.some FieldType.int) rmX9_worth [.ref (g.1 + 44), .int h] M (pI fun r M' => M' = M ∧ r = worR σ δ h) := by
  obtain ⟨hs, w, dw, V, r1, r2, r3, r4, r5, r6, r7⟩ := id C
  refine Ct.of rfl (Nat.le_of_ble_eq_true rfl) (fun x => ?_)
  refine r_iload_n dX9_worth_0 rfl ?_
  refine r_cS1i csX9_116 (kX9_isHouse g M hs h) hs.pos ⟨Nat.le_of_ble_eq_true rfl, Nat.le_of_ble_eq_true rfl⟩ (Nat.le_of_ble_eq_true rfl) ⟨Nat.le_of_ble_eq_true rfl, Nat.le_of_ble_eq_true rfl⟩ dX9_worth_1 (fun r1 M1 h1 => ?_)
  obtain ⟨e1, h1⟩ := h1
  replace e1 := e1.symm
  subst e1
  refine r_if_eq 15 dX9_worth_4 (by decide) (fun c4 => ?_) (fun c4 => ?_)
  · skip
    refine r_bipush (v := -101) dX9_worth_15 (by decide) ?_
    exact r_iret dX9_worth_17 ⟨_, rfl, rfl, by rw [worR, if_neg (zero_of h1 c4)]⟩
  · skip
    refine r_aload_n dX9_worth_7 rfl ?_
    refine r_iload_n dX9_worth_8 rfl ?_
    refine r_cV1i cvX9_127 (kX9_worthOf g M σ δ C h) (hs.lt (by decide)) (hs.T 44 rfl) ⟨Nat.le_of_ble_eq_true rfl, Nat.le_of_ble_eq_true rfl⟩ (Nat.le_of_ble_eq_true rfl) ⟨Nat.le_of_ble_eq_true rfl, Nat.le_of_ble_eq_true rfl⟩ dX9_worth_9 (fun r9 M9 h9 => ?_)
    obtain ⟨e9, h9⟩ := h9
    replace e9 := e9.symm
    subst e9
    refine r_goto 17 dX9_worth_12 (by decide) ?_
    exact r_iret dX9_worth_17 ⟨_, rfl, rfl, by rw [worR, if_pos (one_of h1 c4), h9]; rfl⟩
def rmX9_owes : Room := { frames := 2, cells := 0, slots := 0, locals := 45 }
set_option maxHeartbeats 4000000 in
set_option maxRecDepth 100000 in
theorem kX9_owes (g : Gx) (M : Mm) (σ : Ab) (δ : Dy) (C : RA σ δ M) (p q : Int32) : Ct g yX9_owes cX9_owes 3 (Option.some FieldType.int) rmX9_owes [.ref (g.1 + 44), .int p, .int q] M (pI fun r M' => M' = M ∧ r = oweR σ δ p q) := by
  obtain ⟨hs, w, dw, V, r1, r2, r3, r4, r5, r6, r7⟩ := id C
  refine Ct.of rfl (Nat.le_of_ble_eq_true rfl) (fun x => ?_)
  refine r_iload_n dX9_owes_0 rfl ?_
  refine r_cS1i csX9_116 (kX9_isHouse g M hs p) hs.pos ⟨Nat.le_of_ble_eq_true rfl, Nat.le_of_ble_eq_true rfl⟩ (Nat.le_of_ble_eq_true rfl) ⟨Nat.le_of_ble_eq_true rfl, Nat.le_of_ble_eq_true rfl⟩ dX9_owes_1 (fun r1 M1 h1 => ?_)
  obtain ⟨e1, h1⟩ := h1
  replace e1 := e1.symm
  subst e1
  refine r_if_eq 28 dX9_owes_4 (by decide) (fun c4 => ?_) (fun c4 => ?_)
  · skip
    refine r_bipush (v := -101) dX9_owes_28 (by decide) ?_
    exact r_iret dX9_owes_30 ⟨_, rfl, rfl, by rw [oweR, if_neg (fun z => zero_of h1 c4 z.1)]⟩
  · skip
    refine r_iload_n dX9_owes_7 rfl ?_
    refine r_cS1i csX9_116 (kX9_isHouse g M hs q) hs.pos ⟨Nat.le_of_ble_eq_true rfl, Nat.le_of_ble_eq_true rfl⟩ (Nat.le_of_ble_eq_true rfl) ⟨Nat.le_of_ble_eq_true rfl, Nat.le_of_ble_eq_true rfl⟩ dX9_owes_8 (fun r8 M8 h8 => ?_)
    obtain ⟨e8, h8⟩ := h8
    replace e8 := e8.symm
    subst e8
    refine r_if_eq 28 dX9_owes_11 (by decide) (fun c11 => ?_) (fun c11 => ?_)
    · skip
      refine r_bipush (v := -101) dX9_owes_28 (by decide) ?_
      exact r_iret dX9_owes_30 ⟨_, rfl, rfl, by rw [oweR, if_neg (fun z => zero_of h8 c11 z.2.1)]⟩
    · skip
      refine r_iload_n dX9_owes_14 rfl ?_
      refine r_iload_n dX9_owes_15 rfl ?_
      refine r_icmp_eq 28 dX9_owes_16 (by decide) (fun c16 => ?_) (fun c16 => ?_)
      · skip
        refine r_bipush (v := -101) dX9_owes_28 (by decide) ?_
        exact r_iret dX9_owes_30 ⟨_, rfl, rfl, by rw [oweR, if_neg (fun z => z.2.2 c16)]⟩
      · skip
        refine r_aload_n dX9_owes_19 rfl ?_
        refine r_iload_n dX9_owes_20 rfl ?_
        refine r_iload_n dX9_owes_21 rfl ?_
        refine r_cV2i cvX9_202 (kX9_owesOf g M σ δ C p q) (hs.lt (by decide)) (hs.T 44 rfl) ⟨Nat.le_of_ble_eq_true rfl, Nat.le_of_ble_eq_true rfl⟩ (Nat.le_of_ble_eq_true rfl) ⟨Nat.le_of_ble_eq_true rfl, Nat.le_of_ble_eq_true rfl⟩ dX9_owes_22 (fun r22 M22 h22 => ?_)
        obtain ⟨e22, h22⟩ := h22
        replace e22 := e22.symm
        subst e22
        refine r_goto 30 dX9_owes_25 (by decide) ?_
        exact r_iret dX9_owes_30 ⟨_, rfl, rfl, by rw [oweR, if_pos ⟨one_of h1 c4, one_of h8 c11, c16⟩, h22]⟩
def rmX9_month : Room := { frames := 3, cells := 0, slots := 0, locals := 78 }
set_option maxHeartbeats 4000000 in
set_option maxRecDepth 100000 in
theorem lp_rmonC (g : Gx) (x : Cx) (P : Int32 → Mm → Prop) (M : Mm) (hs : St M) (σ : Ab) (δ : Dy) (w : Wf σ) (V : RV1 σ M) (r4 : ∀ t, t < zN σ → mI M 44 8 >>> (nI t &&& 31) &&& 1 = yq δ t) (e0 : mI M 44 12 = yf δ) (b4 : ∀ t, t < zN σ → b01 (yq δ t)) (tk : Int32) (hP : ∀ M', Fr [44] [] M M' → mI M' 44 12 = feeF σ δ (zN σ) → (∀ k, k ≠ 12 → mI M' 44 k = mI M 44 k) → P tk M') : ∀ (n : Nat) (i : Nat) (v : Int32) (M1 : Mm), i ≤ zN σ → zN σ - i < n → v = nI i → Fr [44] [] M M1 → mI M1 44 12 = feeF σ δ i → (∀ k, k ≠ 12 → mI M1 44 k = mI M 44 k) → Vj x g yX9_month cX9_month 3 (Option.some FieldType.int) rmX9_month (Qm x g rmX9_month.cells rmX9_month.slots (pI P)) 0 0 M1 96 [(0, some (.ref (g.1 + 44))), (1, some (.int tk)), (2, some (.int v))] [] := by
  intro n
  induction n with
  | zero => intro i v M1 hiN hn hv hF ef ek; omega
  | succ n ih =>
    intro i v M1 hiN hn hv hF ef ek
    have hs1 := hs.fr hF
    subst hv
    have hv : nI i = nI i := rfl
    refine r_iload_n dX9_month_96 rfl ?_
    refine r_aload_n dX9_month_97 rfl ?_
    refine r_getI flX9_91_9 rfl (hs1.lt (by decide)) (hs1.T 44 rfl) dX9_month_98 ?_
    refine r_icmp_ge 145 dX9_month_101 (by decide) (fun c101 => ?_) (fun c101 => ?_)
    · skip
      rw [ek 5 (by decide)] at c101
      have ez := lp_ge (n := zN σ) hv V.1 c101 hiN (by have := w.1; omega)
      subst ez
      refine r_iload_n dX9_month_145 rfl ?_
      exact r_iret dX9_month_146 ⟨_, rfl, hP _ hF ef ek⟩
    · skip
      rw [ek 5 (by decide)] at c101
      have hi : i < zN σ := lp_lt (n := zN σ) hv V.1 c101 hiN (by have := w.1; omega)
      have hi8 : i < 8 := Nat.lt_of_lt_of_le hi w.1
      refine r_aload_n dX9_month_104 rfl ?_
      refine r_dup dX9_month_105 rfl ?_
      refine r_getI flX9_160_9 rfl (hs1.lt (by decide)) (hs1.T 44 rfl) dX9_month_106 ?_
      refine r_dia (P := fun u => u = (if yq δ i = 0 then 0 else zf σ i)) 135 (fun u hu => ?_) (fun hJ135 => ?_)
      · skip
        refine r_iadd dX9_month_135 ?_
        refine r_putI fpX9_160_9 rfl (hs1.lt (by decide)) (hs1.T 44 rfl) rfl rfl dX9_month_136 ?_
        refine r_iinc dX9_month_139 rfl rfl rfl ?_
        refine r_goto 96 dX9_month_142 (by decide) ?_
        exact r_lv (lvSc rfl (lvSc rfl (lvSc rfl lvS0))) (ih (i + 1) _ _ (by omega) (by omega) (nI_inc rfl) (hF.sI (by simp)) (by rw [mI_sI, va_up_self, feeF, ef, hu]) (fun k hk => by rw [mI_sI, va_up_ne _ _ hk]; exact ek k hk))
      · skip
        refine r_aload_n dX9_month_109 rfl ?_
        refine r_getI flX9_94_9 rfl (hs1.lt (by decide)) (hs1.T 44 rfl) dX9_month_110 ?_
        refine r_iload_n dX9_month_113 rfl ?_
        refine r_ishr dX9_month_114 ?_
        refine r_iconst (v := 1) dX9_month_115 (by decide) ?_
        refine r_iand dX9_month_116 ?_
        refine r_iconst (v := 1) dX9_month_117 (by decide) ?_
        refine r_icmp_ne 134 dX9_month_118 (by decide) (fun c118 => ?_) (fun c118 => ?_)
        · skip
          rw [ek 8 (by decide), r4 i hi] at c118
          have hfin : (0 : Int32) = (if yq δ i = 0 then 0 else zf σ i) := by rw [if_pos ((b4 i hi).resolve_right c118)]
          refine r_iconst (v := 0) dX9_month_134 (by decide) ?_
          exact hJ135 _ hfin
        · skip
          rw [ek 8 (by decide), r4 i hi] at c118
          have hfin : mI M1 47 (4 * i + 3) = (if yq δ i = 0 then 0 else zf σ i) := by
            rw [if_neg (by rw [c118]; decide), hF.2.1 47 (by decide)]; exact (V.2.2.1 i hi).2.2.2
          refine r_aload_n dX9_month_121 rfl ?_
          refine r_getR flX9_16_9 rfl (hs1.lt (by decide)) (hs1.T 44 rfl) (hs1.R 44 7 rfl) dX9_month_122 ?_
          refine r_iconst (v := 4) dX9_month_125 (by decide) ?_
          refine r_iload_n dX9_month_126 rfl ?_
          refine r_imul dX9_month_127 ?_
          refine r_iconst (v := 3) dX9_month_128 (by decide) ?_
          refine r_iadd dX9_month_129 ?_
          refine r_ial (hs1.T 47 rfl) (hs1.lt (by decide)) (ix4 (c := 3) (by omega) (by decide)) dX9_month_130 ?_
          refine r_goto 135 dX9_month_131 (by decide) ?_
          exact hJ135 _ hfin
set_option maxHeartbeats 4000000 in
set_option maxRecDepth 100000 in
theorem lp_rmonB (g : Gx) (x : Cx) (P : Int32 → Mm → Prop) (M : Mm) (hs : St M) (σ : Ab) (δ : Dy) (w : Wf σ) (V : RV1 σ M) (r4 : ∀ t, t < zN σ → mI M 44 8 >>> (nI t &&& 31) &&& 1 = yq δ t) (e0 : mI M 44 12 = yf δ) (b4 : ∀ t, t < zN σ → b01 (yq δ t)) (tk : Int32) (hP : ∀ M', Fr [44, 49] [] M M' → (∀ h, h < 8 → mI M' 49 h = mI M 52 h) → mI M' 44 11 = mI M 44 11 + 1 → mI M' 44 12 = feeF σ δ (zN σ) → (∀ k, k ≠ 11 → k ≠ 12 → mI M' 44 k = mI M 44 k) → P tk M') : ∀ (n : Nat) (i : Nat) (v : Int32) (M1 : Mm), i ≤ 8 → 8 - i < n → v = nI i → Fr [49] [] M M1 → (∀ h, h < i → mI M1 49 h = mI M 52 h) → Vj x g yX9_month cX9_month 3 (Option.some FieldType.int) rmX9_month (Qm x g rmX9_month.cells rmX9_month.slots (pI P)) 0 0 M1 60 [(0, some (.ref (g.1 + 44))), (1, some (.int tk)), (2, some (.int v))] [] := by
  intro n
  induction n with
  | zero => intro i v M1 hi8 hn hv hF eb; omega
  | succ n ih =>
    intro i v M1 hi8 hn hv hF eb
    have hs1 := hs.fr hF
    subst hv
    have hv : nI i = nI i := rfl
    refine r_iload_n dX9_month_60 rfl ?_
    refine r_bipush (v := 8) dX9_month_61 (by decide) ?_
    refine r_icmp_ge 84 dX9_month_63 (by decide) (fun c63 => ?_) (fun c63 => ?_)
    · skip
      have ez := lp_ge (n := 8) hv rfl c63 hi8 (by decide)
      subst ez
      refine r_aload_n dX9_month_84 rfl ?_
      refine r_dup dX9_month_85 rfl ?_
      refine r_getI flX9_157_9 rfl (hs1.lt (by decide)) (hs1.T 44 rfl) dX9_month_86 ?_
      refine r_iconst (v := 1) dX9_month_89 (by decide) ?_
      refine r_iadd dX9_month_90 ?_
      refine r_putI fpX9_157_9 rfl (hs1.lt (by decide)) (hs1.T 44 rfl) rfl rfl dX9_month_91 ?_
      refine r_iconst (v := 0) dX9_month_94 (by decide) ?_
      refine r_istore_n dX9_month_95 (by decide) rfl ?_
      have hG : Fr [44, 49] [] M (sI M1 44 11 (mI M1 44 11 + 1)) := (hF.mono (by simp) (by simp)).sI (by simp)
      have g1 : mI M1 44 = mI M 44 := hF.2.1 44 (by decide)
      exact r_lv (lvSc rfl (lvSc rfl (lvSc rfl lvS0))) (lp_rmonC g x P (sI M1 44 11 (mI M1 44 11 + 1)) (hs.fr hG) σ δ w (V.of44 ((mI_sI_ne (by decide)).trans (hF.2.1 47 (by decide))) ((mI_sI_ne (by decide)).trans (hF.2.1 50 (by decide))) (by rw [mI_sI, g1, va_up_ne _ _ (by decide)]) (by rw [mI_sI, g1, va_up_ne _ _ (by decide)])) (by rw [mI_sI, g1, va_up_ne _ _ (by decide)]; exact r4) (by rw [mI_sI, g1, va_up_ne _ _ (by decide)]; exact e0) b4 tk (fun M' f1 f2 f3 => hP M' (hG.tr (f1.mono (by simp) (by simp))) (fun h h8 => by rw [f1.2.1 49 (by decide), mI_sI_ne (by decide)]; exact eb h h8) (by rw [f3 11 (by decide), mI_sI, va_up_self, g1]) f2 (fun k k1 k2 => by rw [f3 k k2, mI_sI, va_up_ne _ _ k1, g1])) (zN σ + 1) 0 0 _ (by omega) (by omega) rfl (Fr.rf _ _ _) (by rw [mI_sI, g1, va_up_ne _ _ (by decide)]; exact e0) (fun k _ => rfl))
    · skip
      have hi8 : i < 8 := lp_lt (n := 8) hv rfl c63 hi8 (by decide)
      refine r_aload_n dX9_month_66 rfl ?_
      refine r_getR flX9_22_9 rfl (hs1.lt (by decide)) (hs1.T 44 rfl) (hs1.R 44 14 rfl) dX9_month_67 ?_
      refine r_iload_n dX9_month_70 rfl ?_
      refine r_aload_n dX9_month_71 rfl ?_
      refine r_getR flX9_31_9 rfl (hs1.lt (by decide)) (hs1.T 44 rfl) (hs1.R 44 17 rfl) dX9_month_72 ?_
      refine r_iload_n dX9_month_75 rfl ?_
      refine r_ial (hs1.T 52 rfl) (hs1.lt (by decide)) (ix_nI hi8 (by decide)) dX9_month_76 ?_
      refine r_ias (hs1.T 49 rfl) (hs1.lt (by decide)) (ix_nI hi8 (by decide)) dX9_month_77 ?_
      refine r_iinc dX9_month_78 rfl rfl rfl ?_
      refine r_goto 60 dX9_month_81 (by decide) ?_
      exact r_lv (lvSc rfl (lvSc rfl (lvSc rfl lvS0))) (ih (i + 1) _ _ (by omega) (by omega) (nI_inc rfl) (hF.sI (by simp)) (fun h hh => by
        rw [mI_sI, va_up_if]
        split
        · next e => rw [e, hF.2.1 52 (by decide)]
        · exact eb h (by omega)))
set_option maxHeartbeats 4000000 in
set_option maxRecDepth 100000 in
theorem lp_rmonA (g : Gx) (x : Cx) (P : Int32 → Mm → Prop) (M : Mm) (hs : St M) (σ : Ab) (δ : Dy) (w : Wf σ) (V : RV1 σ M) (r4 : ∀ t, t < zN σ → mI M 44 8 >>> (nI t &&& 31) &&& 1 = yq δ t) (e0 : mI M 44 12 = yf δ) (b4 : ∀ t, t < zN σ → b01 (yq δ t)) (tk : Int32) (hP : ∀ M', Fr [44, 49, 50] [] M M' → (∀ k, mI M' 50 k = if k % 4 = 2 ∧ k / 4 < zS σ then mI M 51 (k / 4) else mI M 50 k) → (∀ h, h < 8 → mI M' 49 h = mI M 52 h) → mI M' 44 11 = mI M 44 11 + 1 → mI M' 44 12 = feeF σ δ (zN σ) → (∀ k, k ≠ 11 → k ≠ 12 → mI M' 44 k = mI M 44 k) → P tk M') : ∀ (n : Nat) (i : Nat) (v : Int32) (M1 : Mm), i ≤ zS σ → zS σ - i < n → v = nI i → Fr [50] [] M M1 → (∀ k, mI M1 50 k = if k % 4 = 2 ∧ k / 4 < i then mI M 51 (k / 4) else mI M 50 k) → Vj x g yX9_month cX9_month 3 (Option.some FieldType.int) rmX9_month (Qm x g rmX9_month.cells rmX9_month.slots (pI P)) 0 0 M1 28 [(0, some (.ref (g.1 + 44))), (1, some (.int tk)), (2, some (.int v))] [] := by
  intro n
  induction n with
  | zero => intro i v M1 hiS hn hv hF eb; omega
  | succ n ih =>
    intro i v M1 hiS hn hv hF eb
    have hs1 := hs.fr hF
    have g1 : mI M1 44 = mI M 44 := hF.2.1 44 (by decide)
    subst hv
    have hv : nI i = nI i := rfl
    refine r_iload_n dX9_month_28 rfl ?_
    refine r_aload_n dX9_month_29 rfl ?_
    refine r_getI flX9_113_9 rfl (hs1.lt (by decide)) (hs1.T 44 rfl) dX9_month_30 ?_
    refine r_icmp_ge 58 dX9_month_33 (by decide) (fun c33 => ?_) (fun c33 => ?_)
    · skip
      rw [g1] at c33
      have ez := lp_ge (n := zS σ) hv V.2.1 c33 hiS (by have := w.2.1; omega)
      subst ez
      refine r_iconst (v := 0) dX9_month_58 (by decide) ?_
      refine r_istore_n dX9_month_59 (by decide) rfl ?_
      have V1 : RV1 σ M1 := by
        refine ⟨by rw [g1]; exact V.1, by rw [g1]; exact V.2.1, by rw [hF.2.1 47 (by decide)]; exact V.2.2.1, fun s hs => ?_⟩
        rw [eb, eb, if_neg (by omega), if_neg (by omega)]
        exact V.2.2.2 s hs
      exact r_lv (lvSc rfl (lvSc rfl (lvSc rfl lvS0))) (lp_rmonB g x P M1 hs1 σ δ w V1 (by rw [g1]; exact r4) (by rw [g1]; exact e0) b4 tk (fun M' f1 f2 f3 f4 f5 => hP M' ((hF.mono (by simp) (by simp)).tr (f1.mono (by simp) (by simp))) (fun k => by rw [f1.2.1 50 (by decide)]; exact eb k) (fun h h8 => by rw [f2 h h8, hF.2.1 52 (by decide)]) (by rw [f3, g1]) f4 (fun k k1 k2 => by rw [f5 k k1 k2, g1])) 9 0 0 _ (by omega) (by omega) rfl (Fr.rf _ _ _) (fun h hh => by omega))
    · skip
      rw [g1] at c33
      have hi : i < zS σ := lp_lt (n := zS σ) hv V.2.1 c33 hiS (by have := w.2.1; omega)
      have hi8 : i < 8 := Nat.lt_of_lt_of_le hi w.2.1
      refine r_aload_n dX9_month_36 rfl ?_
      refine r_getR flX9_25_9 rfl (hs1.lt (by decide)) (hs1.T 44 rfl) (hs1.R 44 15 rfl) dX9_month_37 ?_
      refine r_iconst (v := 4) dX9_month_40 (by decide) ?_
      refine r_iload_n dX9_month_41 rfl ?_
      refine r_imul dX9_month_42 ?_
      refine r_iconst (v := 2) dX9_month_43 (by decide) ?_
      refine r_iadd dX9_month_44 ?_
      refine r_aload_n dX9_month_45 rfl ?_
      refine r_getR flX9_28_9 rfl (hs1.lt (by decide)) (hs1.T 44 rfl) (hs1.R 44 16 rfl) dX9_month_46 ?_
      refine r_iload_n dX9_month_49 rfl ?_
      refine r_ial (hs1.T 51 rfl) (hs1.lt (by decide)) (ix_nI hi8 (by decide)) dX9_month_50 ?_
      refine r_ias (hs1.T 50 rfl) (hs1.lt (by decide)) (ix4 (c := 2) (by omega) (by decide)) dX9_month_51 ?_
      refine r_iinc dX9_month_52 rfl rfl rfl ?_
      refine r_goto 28 dX9_month_55 (by decide) ?_
      exact r_lv (lvSc rfl (lvSc rfl (lvSc rfl lvS0))) (ih (i + 1) _ _ (by omega) (by omega) (nI_inc rfl) (hF.sI (by simp)) (fun k => by
        rw [mI_sI, va_up_if, hF.2.1 51 (by decide)]
        by_cases e : k = 4 * i + 2
        · rw [if_pos e, if_pos (by omega), show k / 4 = i by omega]
        · rw [if_neg e, eb k]
          by_cases z : k % 4 = 2 ∧ k / 4 < i
          · rw [if_pos z, if_pos (by omega)]
          · rw [if_neg z, if_neg (by omega)]))
