theorem CV1.fr {σ : Ab} {M M' : Mm} {is ls : List Nat} (h : CV1 σ M) (hs : St M) (w : Wf σ) (f : Fr is ls M M') (hi : ∀ a ∈ is, a ≠ 0 ∧ a ≠ 9 ∧ a ≠ 10 ∧ (a < 36 ∨ (44 ≤ a ∧ a < 59))) : CV1 σ M' := by
  have n0 : 0 ∉ is := fun q => (hi 0 q).1 rfl
  have n9 : 9 ∉ is := fun q => (hi 9 q).2.1 rfl
  have n10 : 10 ∉ is := fun q => (hi 10 q).2.2.1 rfl
  refine ⟨by rw [f.2.1 0 n0]; exact h.1, by rw [f.2.1 0 n0]; exact h.2.1, fun t ht => ?_, fun s hs => by rw [f.2.1 9 n9, f.2.1 10 n10]; exact h.2.2.2 s hs⟩
  have h4 := hs.2.2.2 t (by have := w.1; omega)
  have hn : thi M t ∉ is := fun q => by have := (hi _ q).2.2.2; omega
  rw [f.1.kd, f.1.ti, f.2.1 _ hn]
  exact h.2.2.1 t ht
theorem CD.fr1 {c : Nat} {σ : Ab} {M M' : Mm} {pd dg lo ps ps' : Rw} (h : CD c M σ pd dg lo ps) (f : Fr [c + 1] [] M M') (hp : ∀ s, s < zS σ → mI M' (c + 1) s = ps' s) : CD c M' σ pd dg lo ps' :=
  ⟨hp, fun q hq => by rw [f.2.1 _ (by simp)]; exact h.2.1 q hq, fun q hq => by rw [f.2.1 _ (by simp)]; exact h.2.2.1 q hq, fun q hq => by rw [f.2.1 _ (by simp)]; exact h.2.2.2 q hq⟩
theorem CD.fr3 {c : Nat} {σ : Ab} {M M' : Mm} {pd dg lo lo' ps : Rw} (h : CD c M σ pd dg lo ps) (f : Fr [c + 3] [] M M') (hp : ∀ q, q < 8 → mI M' (c + 3) q = lo' q) : CD c M' σ pd dg lo' ps :=
  ⟨fun q hq => by rw [f.2.1 _ (by simp)]; exact h.1 q hq, hp, fun q hq => by rw [f.2.1 _ (by simp)]; exact h.2.2.1 q hq, fun q hq => by rw [f.2.1 _ (by simp)]; exact h.2.2.2 q hq⟩
theorem ok1 {c : Nat} (hc : isC c) : ∀ a ∈ [c + 1], a ≠ 0 ∧ a ≠ 9 ∧ a ≠ 10 ∧ (a < 36 ∨ (44 ≤ a ∧ a < 59)) := by have := hc.ne; intro a ha; simp at ha; omega
theorem pick_s {k : Nat} {wo ps : Rw} {h : Int32} {i : Nat} (h1 : ps i = h) (h2 : pickF k wo ps h i = -1 ∨ likes k (wo i) (wo (pickF k wo ps h i).toNatClampNeg) = true) : pickF k wo ps h (i + 1) = nI i := by rw [pickF, if_pos ⟨h1, h2⟩]
theorem pick_n {k : Nat} {wo ps : Rw} {h : Int32} {i : Nat} (h1 : ¬ ps i = h) : pickF k wo ps h (i + 1) = pickF k wo ps h i := by rw [pickF, if_neg (fun q => h1 q.1)]
theorem pick_m {k : Nat} {wo ps : Rw} {h : Int32} {i : Nat} (h1 : ¬ pickF k wo ps h i = -1) (h2 : ¬ likes k (wo i) (wo (pickF k wo ps h i).toNatClampNeg) = true) : pickF k wo ps h (i + 1) = pickF k wo ps h i := by rw [pickF, if_neg (fun q => q.2.elim h1 h2)]
def rmX8_picked : Room := { frames := 1, cells := 0, slots := 0, locals := 22 }
set_option maxHeartbeats 4000000 in
set_option maxRecDepth 100000 in
theorem lp_picked (g : Gx) (x : Cx) (M : Mm) (c : Nat) (hc : isC c) (hs : St M) (σ : Ab) (w : Wf σ) (V : CV1 σ M) (a : Nat) (ha : a < mN M) (ht : isTh (mT M a)) (h : Int32) (ps : Rw) (hps : ∀ s, s < zS σ → mI M (c + 1) s = ps s) : ∀ (n : Nat) (i : Nat) (v b : Int32), i ≤ zS σ → zS σ - i < n → v = nI i → b = pickF (kiS (mT M a)) (zw σ) ps h i → Vj x g yX8_picked cX8_picked 6 (Option.some FieldType.int) rmX8_picked (Qm x g rmX8_picked.cells rmX8_picked.slots (pI fun r M' => M' = M ∧ r = pickF (kiS (mT M a)) (zw σ) ps h (zS σ))) 0 0 M 6 [(0, some (.ref (g.1 + 0))), (1, some (.ref (g.1 + c))), (2, some (.ref (g.1 + a))), (3, some (.int h)), (4, some (.int b)), (5, some (.int v))] [] := by
  intro n
  induction n with
  | zero => intro i v b hiS hn hv hb; omega
  | succ n ih =>
    intro i v b hiS hn hv hb
    refine r_iload dX8_picked_6 rfl ?_
    refine r_aload_n dX8_picked_8 rfl ?_
    refine r_getI flX8_66_8 rfl (hs.lt (by decide)) (hs.T 0 rfl) dX8_picked_9 ?_
    refine r_icmp_ge 63 dX8_picked_12 (by decide) (fun c12 => ?_) (fun c12 => ?_)
    · skip
      refine r_iload dX8_picked_63 rfl ?_
      exact r_iret dX8_picked_65 ⟨_, rfl, rfl, by rw [hb, lp_ge (n := zS σ) hv V.2.1 c12 hiS (by have := w.2.1; omega)]⟩
    · skip
      have hi : i < zS σ := lp_lt (n := zS σ) hv V.2.1 c12 hiS (by have := w.2.1; omega)
      have h8 : i < 8 := Nat.lt_of_lt_of_le hi w.2.1
      refine r_aload_n dX8_picked_15 rfl ?_
      refine r_getR flX8_166_1 rfl (hs.cl0 hc) (hs.cT hc) (hs.cR0 hc) dX8_picked_16 ?_
      refine r_iload dX8_picked_19 rfl ?_
      refine r_ial (hs.cA0 hc) (hs.cl hc 1 (by decide)) (ix_of hv h8 (by decide)) dX8_picked_21 ?_
      refine r_iload_n dX8_picked_22 rfl ?_
      refine r_icmp_ne 57 dX8_picked_23 (by decide) (fun c23 => ?_) (fun c23 => ?_)
      · skip
        refine r_iinc dX8_picked_57 rfl rfl rfl ?_
        refine r_goto 6 dX8_picked_60 (by decide) ?_
        first
          | exact r_lv (lvSc rfl (lvSc rfl (lvSc rfl (lvSc rfl (lvSc rfl (lvSc rfl lvS0)))))) (ih (i + 1) _ _ (by omega) (by omega) (nI_inc hv) (by rw [pick_n (fun q => c23 ((hps i hi).trans q))]; exact hb))
          | exact r_lv (lvSc rfl (lvSc rfl (lvSc rfl (lvSc rfl (lvSc rfl (lvSc rfl lvS0)))))) (ih (i + 1) _ _ (by omega) (by omega) (nI_inc hv) (by rw [pick_s ((hps i hi).symm.trans c23) (Or.inl (hb.symm.trans c29))]; exact hv))
          | exact r_lv (lvSc rfl (lvSc rfl (lvSc rfl (lvSc rfl (lvSc rfl (lvSc rfl lvS0)))))) (ih (i + 1) _ _ (by omega) (by omega) (nI_inc hv) (by rw [pick_m (fun q => c29 (hb.trans q)) (fun q => by rw [ej, nI_clamp (by omega), ← (V.2.2.2 i hi).1, ← (V.2.2.2 j (by omega)).1] at q; rw [q] at c50; exact absurd c50 (by decide))]; exact hb))
          | exact r_lv (lvSc rfl (lvSc rfl (lvSc rfl (lvSc rfl (lvSc rfl (lvSc rfl lvS0)))))) (ih (i + 1) _ _ (by omega) (by omega) (nI_inc hv) (by rw [pick_s ((hps i hi).symm.trans c23) (Or.inr (by rw [ej, nI_clamp (by omega), ← (V.2.2.2 i hi).1, ← (V.2.2.2 j (by omega)).1]; by_cases q : likes (kiS (mT M a)) (mI M 9 i) (mI M 9 j) = true; exact q; rw [if_neg q] at c50; exact absurd rfl c50))]; exact hv))
      · skip
        refine r_iload dX8_picked_26 rfl ?_
        refine r_iconst (v := -1) dX8_picked_28 (by decide) ?_
        refine r_icmp_eq 53 dX8_picked_29 (by decide) (fun c29 => ?_) (fun c29 => ?_)
        · skip
          refine r_iload dX8_picked_53 rfl ?_
          refine r_istore dX8_picked_55 (by decide) rfl ?_
          refine r_iinc dX8_picked_57 rfl rfl rfl ?_
          refine r_goto 6 dX8_picked_60 (by decide) ?_
          first
            | exact r_lv (lvSc rfl (lvSc rfl (lvSc rfl (lvSc rfl (lvSc rfl (lvSc rfl lvS0)))))) (ih (i + 1) _ _ (by omega) (by omega) (nI_inc hv) (by rw [pick_n (fun q => c23 ((hps i hi).trans q))]; exact hb))
            | exact r_lv (lvSc rfl (lvSc rfl (lvSc rfl (lvSc rfl (lvSc rfl (lvSc rfl lvS0)))))) (ih (i + 1) _ _ (by omega) (by omega) (nI_inc hv) (by rw [pick_s ((hps i hi).symm.trans c23) (Or.inl (hb.symm.trans c29))]; exact hv))
            | exact r_lv (lvSc rfl (lvSc rfl (lvSc rfl (lvSc rfl (lvSc rfl (lvSc rfl lvS0)))))) (ih (i + 1) _ _ (by omega) (by omega) (nI_inc hv) (by rw [pick_m (fun q => c29 (hb.trans q)) (fun q => by rw [ej, nI_clamp (by omega), ← (V.2.2.2 i hi).1, ← (V.2.2.2 j (by omega)).1] at q; rw [q] at c50; exact absurd c50 (by decide))]; exact hb))
            | exact r_lv (lvSc rfl (lvSc rfl (lvSc rfl (lvSc rfl (lvSc rfl (lvSc rfl lvS0)))))) (ih (i + 1) _ _ (by omega) (by omega) (nI_inc hv) (by rw [pick_s ((hps i hi).symm.trans c23) (Or.inr (by rw [ej, nI_clamp (by omega), ← (V.2.2.2 i hi).1, ← (V.2.2.2 j (by omega)).1]; by_cases q : likes (kiS (mT M a)) (mI M 9 i) (mI M 9 j) = true; exact q; rw [if_neg q] at c50; exact absurd rfl c50))]; exact hv))
        · skip
          obtain ⟨j, hj, ej⟩ := (pickF_some i).resolve_left (fun q => c29 (hb.trans q))
          refine r_aload_n dX8_picked_32 rfl ?_
          refine r_aload_n dX8_picked_33 rfl ?_
          refine r_getR flX8_29_8 rfl (hs.lt (by decide)) (hs.T 0 rfl) (hs.R 0 3 rfl) dX8_picked_34 ?_
          refine r_iload dX8_picked_37 rfl ?_
          refine r_ial (hs.T 9 rfl) (hs.lt (by decide)) (ix_of hv h8 (by decide)) dX8_picked_39 ?_
          refine r_aload_n dX8_picked_40 rfl ?_
          refine r_getR flX8_29_8 rfl (hs.lt (by decide)) (hs.T 0 rfl) (hs.R 0 3 rfl) dX8_picked_41 ?_
          refine r_iload dX8_picked_44 rfl ?_
          refine r_ial (hs.T 9 rfl) (hs.lt (by decide)) (ix_of (hb.trans ej) (by omega) (by decide)) dX8_picked_46 ?_
          refine r_v_likesBetter rfl ha ht ⟨Nat.le_of_ble_eq_true rfl, Nat.le_of_ble_eq_true rfl⟩ (Nat.le_of_ble_eq_true rfl) ⟨Nat.le_of_ble_eq_true rfl, Nat.le_of_ble_eq_true rfl⟩ dX8_picked_47 ?_
          refine r_if_eq 57 dX8_picked_50 (by decide) (fun c50 => ?_) (fun c50 => ?_)
          · skip
            refine r_iinc dX8_picked_57 rfl rfl rfl ?_
            refine r_goto 6 dX8_picked_60 (by decide) ?_
            first
              | exact r_lv (lvSc rfl (lvSc rfl (lvSc rfl (lvSc rfl (lvSc rfl (lvSc rfl lvS0)))))) (ih (i + 1) _ _ (by omega) (by omega) (nI_inc hv) (by rw [pick_n (fun q => c23 ((hps i hi).trans q))]; exact hb))
              | exact r_lv (lvSc rfl (lvSc rfl (lvSc rfl (lvSc rfl (lvSc rfl (lvSc rfl lvS0)))))) (ih (i + 1) _ _ (by omega) (by omega) (nI_inc hv) (by rw [pick_s ((hps i hi).symm.trans c23) (Or.inl (hb.symm.trans c29))]; exact hv))
              | exact r_lv (lvSc rfl (lvSc rfl (lvSc rfl (lvSc rfl (lvSc rfl (lvSc rfl lvS0)))))) (ih (i + 1) _ _ (by omega) (by omega) (nI_inc hv) (by rw [pick_m (fun q => c29 (hb.trans q)) (fun q => by rw [ej, nI_clamp (by omega), ← (V.2.2.2 i hi).1, ← (V.2.2.2 j (by omega)).1] at q; rw [q] at c50; exact absurd c50 (by decide))]; exact hb))
              | exact r_lv (lvSc rfl (lvSc rfl (lvSc rfl (lvSc rfl (lvSc rfl (lvSc rfl lvS0)))))) (ih (i + 1) _ _ (by omega) (by omega) (nI_inc hv) (by rw [pick_s ((hps i hi).symm.trans c23) (Or.inr (by rw [ej, nI_clamp (by omega), ← (V.2.2.2 i hi).1, ← (V.2.2.2 j (by omega)).1]; by_cases q : likes (kiS (mT M a)) (mI M 9 i) (mI M 9 j) = true; exact q; rw [if_neg q] at c50; exact absurd rfl c50))]; exact hv))
          · skip
            refine r_iload dX8_picked_53 rfl ?_
            refine r_istore dX8_picked_55 (by decide) rfl ?_
            refine r_iinc dX8_picked_57 rfl rfl rfl ?_
            refine r_goto 6 dX8_picked_60 (by decide) ?_
            first
              | exact r_lv (lvSc rfl (lvSc rfl (lvSc rfl (lvSc rfl (lvSc rfl (lvSc rfl lvS0)))))) (ih (i + 1) _ _ (by omega) (by omega) (nI_inc hv) (by rw [pick_n (fun q => c23 ((hps i hi).trans q))]; exact hb))
              | exact r_lv (lvSc rfl (lvSc rfl (lvSc rfl (lvSc rfl (lvSc rfl (lvSc rfl lvS0)))))) (ih (i + 1) _ _ (by omega) (by omega) (nI_inc hv) (by rw [pick_s ((hps i hi).symm.trans c23) (Or.inl (hb.symm.trans c29))]; exact hv))
              | exact r_lv (lvSc rfl (lvSc rfl (lvSc rfl (lvSc rfl (lvSc rfl (lvSc rfl lvS0)))))) (ih (i + 1) _ _ (by omega) (by omega) (nI_inc hv) (by rw [pick_m (fun q => c29 (hb.trans q)) (fun q => by rw [ej, nI_clamp (by omega), ← (V.2.2.2 i hi).1, ← (V.2.2.2 j (by omega)).1] at q; rw [q] at c50; exact absurd c50 (by decide))]; exact hb))
              | exact r_lv (lvSc rfl (lvSc rfl (lvSc rfl (lvSc rfl (lvSc rfl (lvSc rfl lvS0)))))) (ih (i + 1) _ _ (by omega) (by omega) (nI_inc hv) (by rw [pick_s ((hps i hi).symm.trans c23) (Or.inr (by rw [ej, nI_clamp (by omega), ← (V.2.2.2 i hi).1, ← (V.2.2.2 j (by omega)).1]; by_cases q : likes (kiS (mT M a)) (mI M 9 i) (mI M 9 j) = true; exact q; rw [if_neg q] at c50; exact absurd rfl c50))]; exact hv))
set_option maxHeartbeats 4000000 in
set_option maxRecDepth 100000 in
theorem kX8_picked (g : Gx) (M : Mm) (c : Nat) (hc : isC c) (hs : St M) (σ : Ab) (w : Wf σ) (V : CV1 σ M) (a : Nat) (ha : a < mN M) (ht : isTh (mT M a)) (h : Int32) (ps : Rw) (hps : ∀ s, s < zS σ → mI M (c + 1) s = ps s) : Ct g yX8_picked cX8_picked 6 (Option.some FieldType.int) rmX8_picked [.ref (g.1 + 0), .ref (g.1 + c), .ref (g.1 + a), .int h] M (pI fun r M' => M' = M ∧ r = pickF (kiS (mT M a)) (zw σ) ps h (zS σ)) := by
  refine Ct.of rfl (Nat.le_of_ble_eq_true rfl) (fun x => ?_)
  refine r_iconst (v := -1) dX8_picked_0 (by decide) ?_
  refine r_istore dX8_picked_1 (by decide) rfl ?_
  refine r_iconst (v := 0) dX8_picked_3 (by decide) ?_
  refine r_istore dX8_picked_4 (by decide) rfl ?_
  exact r_lv (lvSc rfl (lvSc rfl (lvSc rfl (lvSc rfl (lvSc rfl (lvSc rfl lvS0)))))) (lp_picked g x M c hc hs σ w V a ha ht h ps hps (zS σ + 1) 0 0 (-1) (by omega) (by omega) rfl rfl)
