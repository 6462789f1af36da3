theorem frF_1 {σ : Ab} {pd : Int32} {t : Nat} (h : b01 pd) : frF σ pd t = (if pd = 0 then zp σ t else zr σ t) := rfl
theorem toF_1 {σ : Ab} {pd : Int32} {t : Nat} (h : b01 pd) : toF σ pd t = (if (if pd = 0 then (1 : Int32) else 0) = 0 then zp σ t else zr σ t) := by
  unfold toF
  rcases h with e | e <;> rw [e] <;> rfl
theorem takeF_m1 {k : Nat} {wo : Rw} {S : Nat} {fr to : Int32} {n : Nat} {ps : Rw} (h : pickF k wo ps fr S = -1) : takeF k wo S fr to n ps = (0, ps) := by
  cases n with
  | zero => rfl
  | succ n => rw [takeF, if_pos h]
theorem takeF_s {k : Nat} {wo : Rw} {S : Nat} {fr to : Int32} {n j : Nat} {ps : Rw} (h : pickF k wo ps fr S = nI j) (hj : j < 2 ^ 31) : takeF k wo S fr to (n + 1) ps = ((takeF k wo S fr to n (va_up ps j to)).1 + 1, (takeF k wo S fr to n (va_up ps j to)).2) := by
  rw [takeF, if_neg (by rw [h]; exact nI_ne_m1 hj), h, nI_clamp hj]
theorem St.th {M : Mm} (hs : St M) {σ : Ab} (w : Wf σ) (V : CV1 σ M) {t : Nat} (ht : t < zN σ) : ∃ a, mR M 8 t = some a ∧ a < mN M ∧ isTh (mT M a) ∧ kiS (mT M a) = zk σ t ∧ mI M a 0 = zp σ t ∧ mI M a 1 = zr σ t ∧ mI M a 2 = zf σ t ∧ 36 ≤ a ∧ ¬ (44 ≤ a ∧ a < 59) := by
  obtain ⟨h1, h2, h3, h4, h5⟩ := hs.2.2.2 t (by have := w.1; omega)
  obtain ⟨v1, v2, v3, v4⟩ := V.2.2.1 t ht
  exact ⟨thi M t, h1, h4, h5, v1, v2, v3, v4, h2, h3⟩
def rmX8_visit : Room := { frames := 2, cells := 0, slots := 0, locals := 47 }
set_option maxHeartbeats 4000000 in
set_option maxRecDepth 100000 in
theorem lp_visit (g : Gx) (x : Cx) (M : Mm) (c : Nat) (hc : isC c) (hs : St M) (σ : Ab) (w : Wf σ) (V : CV1 σ M) (pd dg lo ps : Rw) (D : CD c M σ pd dg lo ps) (t : Nat) (htN : t < zN σ) (a : Nat) (ha : a < mN M) (hth : isTh (mT M a)) (ek : kiS (mT M a) = zk σ t) (fr to : Int32) (hno : visitF σ pd dg lo t ps = takeF (zk σ t) (zw σ) (zS σ) fr to (mostF (zk σ t)) ps) : ∀ (n : Nat) (i : Nat) (v tk : Int32) (M1 : Mm) (ps1 : Rw), i ≤ mostF (zk σ t) → mostF (zk σ t) - i < n → v = nI i → Fr [c + 1] [] M M1 → (∀ s, s < zS σ → mI M1 (c + 1) s = ps1 s) → (takeF (zk σ t) (zw σ) (zS σ) fr to (mostF (zk σ t) - i) ps1).1 + tk = (visitF σ pd dg lo t ps).1 → (takeF (zk σ t) (zw σ) (zS σ) fr to (mostF (zk σ t) - i) ps1).2 = (visitF σ pd dg lo t ps).2 → Vj x g yX8_visit cX8_visit 9 (Option.some FieldType.int) rmX8_visit (Qm x g rmX8_visit.cells rmX8_visit.slots (pI fun r M' => Fr [c + 1] [] M M' ∧ r = (visitF σ pd dg lo t ps).1 ∧ ∀ s, s < zS σ → mI M' (c + 1) s = (visitF σ pd dg lo t ps).2 s)) 0 0 M1 68 [(0, some (.ref (g.1 + 0))), (1, some (.ref (g.1 + c))), (3, some (.ref (g.1 + a))), (4, some (.int fr)), (5, some (.int to)), (6, some (.int tk)), (7, some (.int v))] [] := by
  intro n
  induction n with
  | zero => intro i v tk M1 ps1 him hn hv hF hp1 e1 e2; omega
  | succ n ih =>
    intro i v tk M1 ps1 him hn hv hF hp1 e1 e2
    have hs1 := hs.fr hF
    have V1 := V.fr hs w hF (ok1 hc)
    have ha1 : a < mN M1 := by rw [hF.1.1]; exact ha
    have ht1 : isTh (mT M1 a) := by rw [hF.1.2.1]; exact hth
    have hm2 : mostF (zk σ t) ≤ 2 := by unfold mostF; split <;> (try split) <;> omega
    refine r_iload dX8_visit_68 rfl ?_
    refine r_aload_n dX8_visit_70 rfl ?_
    refine r_v_mostTaken rfl ha1 ht1 ⟨Nat.le_of_ble_eq_true rfl, Nat.le_of_ble_eq_true rfl⟩ (Nat.le_of_ble_eq_true rfl) ⟨Nat.le_of_ble_eq_true rfl, Nat.le_of_ble_eq_true rfl⟩ dX8_visit_71 ?_
    rw [hF.1.2.1, ek]
    refine r_icmp_ge 114 dX8_visit_74 (by decide) (fun c74 => ?_) (fun c74 => ?_)
    · skip
      have e0 := lp_ge (n := mostF (zk σ t)) hv rfl c74 him (by have := hm2; omega)
      rw [e0, Nat.sub_self] at e1 e2
      have e1 : tk = (visitF σ pd dg lo t ps).1 := by rw [← e1]; exact (Int32.zero_add tk).symm
      have e2 : ps1 = (visitF σ pd dg lo t ps).2 := e2
      refine r_iload dX8_visit_114 rfl ?_
      exact r_iret dX8_visit_116 ⟨_, rfl, hF, e1, fun s hs => by rw [hp1 s hs, e2]⟩
    · skip
      have hi : i < mostF (zk σ t) := lp_lt (n := mostF (zk σ t)) hv rfl c74 him (by have := hm2; omega)
      obtain ⟨n2, en2⟩ : ∃ n2, mostF (zk σ t) - i = n2 + 1 := ⟨mostF (zk σ t) - i - 1, by omega⟩
      refine r_aload_n dX8_visit_77 rfl ?_
      refine r_aload_n dX8_visit_78 rfl ?_
      refine r_aload_n dX8_visit_79 rfl ?_
      refine r_iload dX8_visit_80 rfl ?_
      refine r_cV3i cvX8_297 (kX8_picked g M1 c hc hs1 σ w V1 a ha1 ht1 fr ps1 hp1) (hs1.lt (by decide)) (hs1.T 0 rfl) ⟨Nat.le_of_ble_eq_true rfl, Nat.le_of_ble_eq_true rfl⟩ (Nat.le_of_ble_eq_true rfl) ⟨Nat.le_of_ble_eq_true rfl, Nat.le_of_ble_eq_true rfl⟩ dX8_visit_82 (fun r82 M82 h82 => ?_)
      obtain ⟨e82, h82⟩ := h82
      subst e82
      rw [hF.1.2.1, ek] at h82
      refine r_istore dX8_visit_85 (by decide) rfl ?_
      refine r_iload dX8_visit_87 rfl ?_
      refine r_iconst (v := -1) dX8_visit_89 (by decide) ?_
      refine r_icmp_ne 96 dX8_visit_90 (by decide) (fun c90 => ?_) (fun c90 => ?_)
      · skip
        obtain ⟨j, hj, ej⟩ := (pickF_some (zS σ)).resolve_left (fun q => c90 (h82.trans q))
        have hj8 : j < 8 := Nat.lt_of_lt_of_le hj w.2.1
        rw [en2, takeF_s ej (by omega)] at e1 e2
        refine r_aload_n dX8_visit_96 rfl ?_
        refine r_getR flX8_166_1 rfl (hs1.cl0 hc) (hs1.cT hc) (hs1.cR0 hc) dX8_visit_97 ?_
        refine r_iload dX8_visit_100 rfl ?_
        refine r_iload dX8_visit_102 rfl ?_
        refine r_ias (hs1.cA0 hc) (hs1.cl hc 1 (by decide)) (ix_of (h82.trans ej) hj8 (by decide)) dX8_visit_104 ?_
        refine r_iinc dX8_visit_105 rfl rfl rfl ?_
        refine r_iinc dX8_visit_108 rfl rfl rfl ?_
        refine r_goto 68 dX8_visit_111 (by decide) ?_
        exact r_lv (lvSc rfl (lvSc rfl (lvSc rfl (lvSc rfl (lvSc rfl (lvSc rfl (lvSc rfl lvS0))))))) (ih (i + 1) _ _ _ (va_up ps1 j to) (by omega) (by omega) (nI_inc hv) (hF.sI (by simp)) (fun s hs => by
          rw [mI_sI, va_up_if, va_up_if]
          split
          · rfl
          · exact hp1 s hs) (by rw [show mostF (zk σ t) - (i + 1) = n2 by omega, ← e1]; show _ + (tk + 1) = _ + 1 + tk; grind) (by rw [show mostF (zk σ t) - (i + 1) = n2 by omega]; exact e2))
      · skip
        rw [takeF_m1 (h82.symm.trans c90)] at e1 e2
        have e1 : tk = (visitF σ pd dg lo t ps).1 := by rw [← e1]; exact (Int32.zero_add tk).symm
        have e2 : ps1 = (visitF σ pd dg lo t ps).2 := e2
        refine r_goto 114 dX8_visit_93 (by decide) ?_
        refine r_iload dX8_visit_114 rfl ?_
        exact r_iret dX8_visit_116 ⟨_, rfl, hF, e1, fun s hs => by rw [hp1 s hs, e2]⟩
set_option maxHeartbeats 4000000 in
set_option maxRecDepth 100000 in
theorem kX8_visit (g : Gx) (M : Mm) (c : Nat) (hc : isC c) (hs : St M) (σ : Ab) (w : Wf σ) (V : CV1 σ M) (pd dg lo ps : Rw) (D : CD c M σ pd dg lo ps) (t : Nat) (htN : t < zN σ) : Ct g yX8_visit cX8_visit 9 (Option.some FieldType.int) rmX8_visit [.ref (g.1 + 0), .ref (g.1 + c), .int (nI t)] M (pI fun r M' => Fr [c + 1] [] M M' ∧ r = (visitF σ pd dg lo t ps).1 ∧ ∀ s, s < zS σ → mI M' (c + 1) s = (visitF σ pd dg lo t ps).2 s) := by
  obtain ⟨a, eR, ha, ht, ek, ep, er, -, -, -⟩ := hs.th w V htN
  have ht8 : t < 8 := Nat.lt_of_lt_of_le htN w.1
  refine Ct.of rfl (Nat.le_of_ble_eq_true rfl) (fun x => ?_)
  refine r_aload_n dX8_visit_0 rfl ?_
  refine r_getR flX8_25_8 rfl (hs.lt (by decide)) (hs.T 0 rfl) (hs.R 0 2 rfl) dX8_visit_1 ?_
  refine r_iload_n dX8_visit_4 rfl ?_
  refine r_aal (hs.T 8 rfl) (hs.lt (by decide)) (ix_nI ht8 (by decide)) eR dX8_visit_5 ?_
  refine r_astore_n dX8_visit_6 (by decide) rfl ?_
  refine r_aload_n dX8_visit_7 rfl ?_
  refine r_aload_n dX8_visit_8 rfl ?_
  refine r_getR flX8_126_1 rfl (hs.cl0 hc) (hs.cT hc) (hs.cR4 hc) dX8_visit_9 ?_
  refine r_iload_n dX8_visit_12 rfl ?_
  refine r_zal (hs.cA4 hc) (hs.cl hc 5 (by decide)) (ix_nI ht8 (by decide)) dX8_visit_13 ?_
  refine r_v_robs rfl ha ht ⟨Nat.le_of_ble_eq_true rfl, Nat.le_of_ble_eq_true rfl⟩ (Nat.le_of_ble_eq_true rfl) ⟨Nat.le_of_ble_eq_true rfl, Nat.le_of_ble_eq_true rfl⟩ dX8_visit_14 ?_
  refine r_top (fun fr hfr => ?_)
  refine r_istore dX8_visit_17 (by decide) rfl ?_
  refine r_aload_n dX8_visit_19 rfl ?_
  refine r_dia (P := fun v => v = (if pd t = 0 then (1 : Int32) else 0)) 34 (fun np hnp => ?_) (fun hJ34 => ?_)
  · skip
    refine r_v_robs rfl ha ht ⟨Nat.le_of_ble_eq_true rfl, Nat.le_of_ble_eq_true rfl⟩ (Nat.le_of_ble_eq_true rfl) ⟨Nat.le_of_ble_eq_true rfl, Nat.le_of_ble_eq_true rfl⟩ dX8_visit_34 ?_
    refine r_top (fun to hto => ?_)
    refine r_istore dX8_visit_37 (by decide) rfl ?_
    have efr : fr = frF σ (pd t) t := by rw [hfr, (D.2.2.2 t htN).1, ep, er]; rfl
    have eto : to = toF σ (pd t) t := by rw [hto, hnp, ep, er, toF_1 (D.2.2.2 t htN).2]
    obtain ⟨j, hj, ej⟩ := frF_8 w htN (pd t)
    have ej2 := efr.trans ej
    refine r_aload_n dX8_visit_39 rfl ?_
    refine r_aload_n dX8_visit_40 rfl ?_
    refine r_getR flX8_163_1 rfl (hs.cl0 hc) (hs.cT hc) (hs.cR3 hc) dX8_visit_41 ?_
    refine r_iload dX8_visit_44 rfl ?_
    refine r_zal (hs.cA3 hc) (hs.cl hc 4 (by decide)) (ix_of ej2 hj (by decide)) dX8_visit_46 ?_
    refine r_aload_n dX8_visit_47 rfl ?_
    refine r_getR flX8_160_1 rfl (hs.cl0 hc) (hs.cT hc) (hs.cR2 hc) dX8_visit_48 ?_
    refine r_iload dX8_visit_51 rfl ?_
    refine r_ial (hs.cA2 hc) (hs.cl hc 3 (by decide)) (ix_of ej2 hj (by decide)) dX8_visit_53 ?_
    refine r_v_isKeptOut rfl ha ht (by rw [(D.2.2.1 j hj).1]; exact (D.2.2.1 j hj).2) ⟨Nat.le_of_ble_eq_true rfl, Nat.le_of_ble_eq_true rfl⟩ (Nat.le_of_ble_eq_true rfl) ⟨Nat.le_of_ble_eq_true rfl, Nat.le_of_ble_eq_true rfl⟩ dX8_visit_54 (fun r54 h54 => ?_)
    rw [(D.2.2.1 j hj).1, D.2.1 j hj, ek, show dg j = dg (frF σ (pd t) t).toNatClampNeg by rw [ej, nI_clamp (by omega)], show lo j = lo (frF σ (pd t) t).toNatClampNeg by rw [ej, nI_clamp (by omega)]] at h54
    refine r_if_eq 62 dX8_visit_57 (by decide) (fun c57 => ?_) (fun c57 => ?_)
    · skip
      have hno := (h54.resolve_left (fun q => absurd (q.1.symm.trans c57) (by decide))).2
      refine r_iconst (v := 0) dX8_visit_62 (by decide) ?_
      refine r_istore dX8_visit_63 (by decide) rfl ?_
      refine r_iconst (v := 0) dX8_visit_65 (by decide) ?_
      refine r_istore dX8_visit_66 (by decide) rfl ?_
      exact r_lv (lvSc rfl (lvSc rfl (lvSc rfl (lvSc rfl (lvSc rfl (lvSc rfl (lvSc rfl lvS0))))))) (lp_visit g x M c hc hs σ w V pd dg lo ps D t htN a ha ht ek fr to (by rw [visitF_0 hno, efr, eto]) (mostF (zk σ t) + 1) 0 0 0 M ps (by omega) (by omega) rfl (Fr.rf _ _ _) D.1 (by rw [visitF_0 hno, efr, eto]; exact Int32.add_zero _) (by rw [visitF_0 hno, efr, eto]; rfl))
    · skip
      have hin := (h54.resolve_right (fun q => c57 q.1)).2
      refine r_iconst (v := 0) dX8_visit_60 (by decide) ?_
      exact r_iret dX8_visit_61 ⟨_, rfl, Fr.rf _ _ _, by rw [visitF_1 hin], fun s hs => by rw [visitF_1 hin]; exact D.1 s hs⟩
  · skip
    refine r_aload_n dX8_visit_20 rfl ?_
    refine r_getR flX8_126_1 rfl (hs.cl0 hc) (hs.cT hc) (hs.cR4 hc) dX8_visit_21 ?_
    refine r_iload_n dX8_visit_24 rfl ?_
    refine r_zal (hs.cA4 hc) (hs.cl hc 5 (by decide)) (ix_nI ht8 (by decide)) dX8_visit_25 ?_
    refine r_if_ne 33 dX8_visit_26 (by decide) (fun c26 => ?_) (fun c26 => ?_)
    · skip
      refine r_iconst (v := 0) dX8_visit_33 (by decide) ?_
      exact hJ34 _ (by rw [(D.2.2.2 t htN).1] at c26; simp [c26])
    · skip
      refine r_iconst (v := 1) dX8_visit_29 (by decide) ?_
      refine r_goto 34 dX8_visit_30 (by decide) ?_
      exact hJ34 _ (by rw [(D.2.2.2 t htN).1] at c26; simp [c26])
def rmX8_monthWithout : Room := { frames := 3, cells := 0, slots := 0, locals := 75 }
set_option maxHeartbeats 4000000 in
set_option maxRecDepth 100000 in
theorem lp_monthW (g : Gx) (x : Cx) (M : Mm) (c : Nat) (hc : isC c) (hs : St M) (σ : Ab) (w : Wf σ) (V : CV1 σ M) (pd dg lo ps : Rw) (D : CD c M σ pd dg lo ps) (hlo : ∀ h, h < 8 → 0 ≤ lo h) (ab : Int32) : ∀ (n : Nat) (i : Nat) (v tk : Int32) (M1 : Mm), i ≤ zN σ → zN σ - i < n → v = nI i → Fr [c + 1] [] M M1 → tk = (passF σ pd dg lo (fun t => ¬ nI t = ab) ps i).1 → CD c M1 σ pd dg lo (passF σ pd dg lo (fun t => ¬ nI t = ab) ps i).2 → Vj x g yX8_monthWithout cX8_monthWithout 5 (Option.some FieldType.int) rmX8_monthWithout (Qm x g rmX8_monthWithout.cells rmX8_monthWithout.slots (pI fun r M' => Fr [c + 1, c + 3] [] M M' ∧ r = (passF σ pd dg lo (fun t => ¬ nI t = ab) ps (zN σ)).1 ∧ CD c M' σ pd dg (lapF lo) (passF σ pd dg lo (fun t => ¬ nI t = ab) ps (zN σ)).2)) 0 0 M1 5 [(0, some (.ref (g.1 + 0))), (1, some (.ref (g.1 + c))), (2, some (.int ab)), (3, some (.int tk)), (4, some (.int v))] [] := by
  intro n
  induction n with
  | zero => intro i v tk M1 hiN hn hv hF etk D1; omega
  | succ n ih =>
    intro i v tk M1 hiN hn hv hF etk D1
    have hs1 := hs.fr hF
    have V1 := V.fr hs w hF (ok1 hc)
    subst hv
    have hv : nI i = nI i := rfl
    refine r_iload dX8_monthWithout_5 rfl ?_
    refine r_aload_n dX8_monthWithout_7 rfl ?_
    refine r_getI flX8_62_8 rfl (hs1.lt (by decide)) (hs1.T 0 rfl) dX8_monthWithout_8 ?_
    refine r_icmp_ge 40 dX8_monthWithout_11 (by decide) (fun c11 => ?_) (fun c11 => ?_)
    · skip
      have e0 := lp_ge (n := zN σ) hv V1.1 c11 hiN (by have := w.1; omega)
      subst e0
      refine r_aload_n dX8_monthWithout_40 rfl ?_
      refine r_cV0v cvX8_241 (kX1_lapseLocks g M1 c hc hs1 lo D1.2.1 hlo) (hs1.cl0 hc) (hs1.cT hc) ⟨Nat.le_of_ble_eq_true rfl, Nat.le_of_ble_eq_true rfl⟩ (Nat.le_of_ble_eq_true rfl) ⟨Nat.le_of_ble_eq_true rfl, Nat.le_of_ble_eq_true rfl⟩ dX8_monthWithout_41 (fun M41 h41 => ?_)
      refine r_iload_n dX8_monthWithout_44 rfl ?_
      exact r_iret dX8_monthWithout_45 ⟨_, rfl, (hF.mono (by simp) (by simp)).tr (h41.1.mono (by simp) (by simp)), etk, D1.fr3 h41.1 h41.2⟩
    · skip
      have hi : i < zN σ := lp_lt (n := zN σ) hv V1.1 c11 hiN (by have := w.1; omega)
      refine r_iload_n dX8_monthWithout_14 rfl ?_
      refine r_iload dX8_monthWithout_15 rfl ?_
      refine r_iload_n dX8_monthWithout_17 rfl ?_
      refine r_icmp_eq 31 dX8_monthWithout_18 (by decide) (fun c18 => ?_) (fun c18 => ?_)
      · skip
        refine r_iconst (v := 0) dX8_monthWithout_31 (by decide) ?_
        refine r_iadd dX8_monthWithout_32 ?_
        refine r_istore_n dX8_monthWithout_33 (by decide) rfl ?_
        refine r_iinc dX8_monthWithout_34 rfl rfl rfl ?_
        refine r_goto 5 dX8_monthWithout_37 (by decide) ?_
        first
          | exact r_lv (lvSc rfl (lvSc rfl (lvSc rfl (lvSc rfl (lvSc rfl lvS0))))) (ih (i + 1) _ _ _ (by omega) (by omega) (nI_inc rfl) hF (by rw [passF_s0 (fun q => q c18), ← etk]; exact Int32.add_zero _) (by rw [passF_s0 (fun q => q c18)]; exact D1))
          | exact r_lv (lvSc rfl (lvSc rfl (lvSc rfl (lvSc rfl (lvSc rfl lvS0))))) (ih (i + 1) _ _ _ (by omega) (by omega) (nI_inc rfl) (hF.tr hF2) (by rw [passF_s1 c18, etk, e2]) (by rw [passF_s1 c18]; exact D1.fr1 hF2 e3))
      · skip
        refine r_aload_n dX8_monthWithout_21 rfl ?_
        refine r_aload_n dX8_monthWithout_22 rfl ?_
        refine r_iload dX8_monthWithout_23 rfl ?_
        refine r_cV2i cvX8_238 (kX8_visit g M1 c hc hs1 σ w V1 pd dg lo _ D1 i hi) (hs1.lt (by decide)) (hs1.T 0 rfl) ⟨Nat.le_of_ble_eq_true rfl, Nat.le_of_ble_eq_true rfl⟩ (Nat.le_of_ble_eq_true rfl) ⟨Nat.le_of_ble_eq_true rfl, Nat.le_of_ble_eq_true rfl⟩ dX8_monthWithout_25 (fun r25 M25 h25 => ?_)
        obtain ⟨hF2, e2, e3⟩ := h25
        refine r_goto 32 dX8_monthWithout_28 (by decide) ?_
        refine r_iadd dX8_monthWithout_32 ?_
        refine r_istore_n dX8_monthWithout_33 (by decide) rfl ?_
        refine r_iinc dX8_monthWithout_34 rfl rfl rfl ?_
        refine r_goto 5 dX8_monthWithout_37 (by decide) ?_
        first
          | exact r_lv (lvSc rfl (lvSc rfl (lvSc rfl (lvSc rfl (lvSc rfl lvS0))))) (ih (i + 1) _ _ _ (by omega) (by omega) (nI_inc rfl) hF (by rw [passF_s0 (fun q => q c18), ← etk]; exact Int32.add_zero _) (by rw [passF_s0 (fun q => q c18)]; exact D1))
          | exact r_lv (lvSc rfl (lvSc rfl (lvSc rfl (lvSc rfl (lvSc rfl lvS0))))) (ih (i + 1) _ _ _ (by omega) (by omega) (nI_inc rfl) (hF.tr hF2) (by rw [passF_s1 c18, etk, e2]) (by rw [passF_s1 c18]; exact D1.fr1 hF2 e3))
set_option maxHeartbeats 4000000 in
set_option maxRecDepth 100000 in
theorem kX8_monthWithout (g : Gx) (M : Mm) (c : Nat) (hc : isC c) (hs : St M) (σ : Ab) (w : Wf σ) (V : CV1 σ M) (pd dg lo ps : Rw) (D : CD c M σ pd dg lo ps) (hlo : ∀ h, h < 8 → 0 ≤ lo h) (ab : Int32) : Ct g yX8_monthWithout cX8_monthWithout 5 (Option.some FieldType.int) rmX8_monthWithout [.ref (g.1 + 0), .ref (g.1 + c), .int ab] M (pI fun r M' => Fr [c + 1, c + 3] [] M M' ∧ r = (passF σ pd dg lo (fun t => ¬ nI t = ab) ps (zN σ)).1 ∧ CD c M' σ pd dg (lapF lo) (passF σ pd dg lo (fun t => ¬ nI t = ab) ps (zN σ)).2) := by
  refine Ct.of rfl (Nat.le_of_ble_eq_true rfl) (fun x => ?_)
  refine r_iconst (v := 0) dX8_monthWithout_0 (by decide) ?_
  refine r_istore_n dX8_monthWithout_1 (by decide) rfl ?_
  refine r_iconst (v := 0) dX8_monthWithout_2 (by decide) ?_
  refine r_istore dX8_monthWithout_3 (by decide) rfl ?_
  exact r_lv (lvSc rfl (lvSc rfl (lvSc rfl (lvSc rfl (lvSc rfl lvS0))))) (lp_monthW g x M c hc hs σ w V pd dg lo ps D hlo ab (zN σ + 1) 0 0 0 M (by omega) (by omega) rfl (Fr.rf _ _ _) rfl D)
