/-! the reference: a visit, a month -/
theorem RV1.fr {σ : Ab} {M M' : Mm} {is ls : List Nat} (h : RV1 σ M) (f : Fr is ls M M') (hi : ∀ a ∈ is, a ≠ 44 ∧ a ≠ 47 ∧ a ≠ 50) : RV1 σ M' := by
  have e1 := f.2.1 44 (fun q => (hi _ q).1 rfl)
  have e2 := f.2.1 47 (fun q => (hi _ q).2.1 rfl)
  have e3 := f.2.1 50 (fun q => (hi _ q).2.2 rfl)
  unfold RV1
  rw [e1, e2, e3]
  exact h
theorem RA.fr {σ : Ab} {δ : Dy} {M M' : Mm} {is ls : List Nat} (h : RA σ δ M) (f : Fr is ls M M') (hi : ∀ a ∈ is, a ≠ 44 ∧ a ≠ 47 ∧ a ≠ 50 ∧ a ≠ 48 ∧ a ≠ 49) : RA σ δ M' := by
  obtain ⟨h1, h2, h3, h4, h5⟩ := h
  have e1 := f.2.1 44 (fun q => (hi _ q).1 rfl)
  have e3 := f.2.1 50 (fun q => (hi _ q).2.2.1 rfl)
  have e4 := f.2.1 48 (fun q => (hi _ q).2.2.2.1 rfl)
  have e5 := f.2.1 49 (fun q => (hi _ q).2.2.2.2 rfl)
  refine ⟨h1.fr f, h2, h3, h4.fr f (fun a q => ⟨(hi a q).1, (hi a q).2.1, (hi a q).2.2.1⟩), ?_⟩
  rw [e1, e3, e4, e5]
  exact h5
theorem visitF_n {σ : Ab} {pd dg lo : Rw} {t : Nat} {ps : Rw} (h : ¬ takB (zk σ t) (dg (frF σ (pd t) t).toNatClampNeg) (lo (frF σ (pd t) t).toNatClampNeg)) : visitF σ pd dg lo t ps = (0, ps) := by
  by_cases q : outF (zk σ t) (dg (frF σ (pd t) t).toNatClampNeg) (lo (frF σ (pd t) t).toNatClampNeg)
  · exact visitF_1 q
  · have e : zk σ t = 3 := Classical.byContradiction (fun z => h ⟨z, q⟩)
    rw [visitF_0 q, e]
    rfl
theorem k2_t {k : Nat} {v : Int32} (hk : k < 5) (e : v = nI k) (c : v = 2) : (1 : Int32) = if k = 2 then 1 else 0 := by
  rw [if_pos ((nI_eq (b := 2) (by omega) (by decide)).mp (e.symm.trans c))]
theorem k2_f {k : Nat} {v : Int32} (e : v = nI k) (c : ¬ v = 2) : (0 : Int32) = if k = 2 then 1 else 0 := by
  rw [if_neg (fun q => c (by rw [e, q]; rfl))]
theorem most_2 {k : Nat} (h3 : ¬ k = 3) (h : k = 1 ∨ k = 4) : (2 : Int32) = nI (mostF k) := by unfold mostF; rw [if_neg h3, if_pos h]; rfl
theorem most_1 {k : Nat} (h3 : ¬ k = 3) (h : ¬ (k = 1 ∨ k = 4)) : (1 : Int32) = nI (mostF k) := by unfold mostF; rw [if_neg h3, if_neg h]; rfl
theorem eqk {k c : Nat} {v : Int32} (hk : k < 5) (hc : c < 5) (e : v = nI k) : v = nI c ↔ k = c := by rw [e]; exact nI_eq (by omega) (by omega)
def rmX9_visit : Room := { frames := 1, cells := 0, slots := 0, locals := 26 }
set_option maxHeartbeats 4000000 in
set_option maxRecDepth 100000 in
theorem lp_rvisit (g : Gx) (x : Cx) (M : Mm) (hs : St M) (σ : Ab) (w : Wf σ) (V : RV1 σ M) (pd dg lo ps : Rw) (D : RD M σ dg lo ps) (hlo : ∀ h, h < 8 → 0 ≤ lo h) (p : Int32) (hp : ∀ t, t < zN σ → bitI p t = pd t) (t : Nat) (htN : t < zN σ) (hno : visitF σ pd dg lo t ps = takeF (zk σ t) (zw σ) (zS σ) (frF σ (pd t) t) (toF σ (pd t) t) (mostF (zk σ t)) ps) : ∀ (n : Nat) (i : Nat) (v q : Int32) (M1 : Mm) (ps1 : Rw), i ≤ mostF (zk σ t) → mostF (zk σ t) - i < n → v = nI i → Fr [51] [] M M1 → (∀ s, s < zS σ → mI M1 51 s = ps1 s) → q = pickF (zk σ t) (zw σ) ps1 (frF σ (pd t) t) (zS σ) → (takeF (zk σ t) (zw σ) (zS σ) (frF σ (pd t) t) (toF σ (pd t) t) (mostF (zk σ t) - i) ps1).1 + v = (visitF σ pd dg lo t ps).1 → (takeF (zk σ t) (zw σ) (zS σ) (frF σ (pd t) t) (toF σ (pd t) t) (mostF (zk σ t) - i) ps1).2 = (visitF σ pd dg lo t ps).2 → Vj x g yX9_visit cX9_visit 8 (Option.some FieldType.int) rmX9_visit (Qm x g rmX9_visit.cells rmX9_visit.slots (pI fun r M' => Fr [51] [] M M' ∧ r = (visitF σ pd dg lo t ps).1 ∧ ∀ s, s < zS σ → mI M' 51 s = (visitF σ pd dg lo t ps).2 s)) 0 0 M1 66 [(0, some (.ref (g.1 + 44))), (1, some (.int (nI t))), (2, some (.int p)), (3, some (.int (frF σ (pd t) t))), (4, some (.int v)), (5, some (.int (nI (zk σ t)))), (6, some (.int (nI (mostF (zk σ t))))), (7, some (.int q))] [] := by
  intro n
  induction n with
  | zero => intro i v q M1 ps1 him hn hv hF hp1 hq e1 e2; omega
  | succ n ih =>
    intro i v q M1 ps1 him hn hv hF hp1 hq e1 e2
    have ht8 : t < 8 := Nat.lt_of_lt_of_le htN w.1
    have hk5 := (w.2.2.1 t htN).1
    have hm2 : mostF (zk σ t) ≤ 2 := by unfold mostF; split <;> (try split) <;> omega
    have hs1 := hs.fr hF
    have V1 := V.fr hF (by simp)
    refine r_iload dX9_visit_66 rfl ?_
    refine r_iconst (v := -1) dX9_visit_68 (by decide) ?_
    refine r_icmp_eq 116 dX9_visit_69 (by decide) (fun c69 => ?_) (fun c69 => ?_)
    · skip
      rw [takeF_m1 (hq.symm.trans c69)] at e1 e2
      have e1 : v = (visitF σ pd dg lo t ps).1 := by rw [← e1]; exact (Int32.zero_add v).symm
      have e2 : ps1 = (visitF σ pd dg lo t ps).2 := e2
      refine r_iload dX9_visit_116 rfl ?_
      exact r_iret dX9_visit_118 ⟨_, rfl, hF, e1, fun s hs => by rw [hp1 s hs, e2]⟩
    · skip
      obtain ⟨j, hj, ej⟩ := (pickF_some (zS σ)).resolve_left (fun z => c69 (hq.trans z))
      have hj8 : j < 8 := Nat.lt_of_lt_of_le hj w.2.1
      refine r_iload dX9_visit_72 rfl ?_
      refine r_iload dX9_visit_74 rfl ?_
      refine r_icmp_ge 116 dX9_visit_76 (by decide) (fun c76 => ?_) (fun c76 => ?_)
      · skip
        have e0 := lp_ge (n := mostF (zk σ t)) hv rfl c76 him (by have := hm2; omega)
        rw [e0, Nat.sub_self] at e1 e2
        have e1 : v = (visitF σ pd dg lo t ps).1 := by rw [← e1]; exact (Int32.zero_add v).symm
        have e2 : ps1 = (visitF σ pd dg lo t ps).2 := e2
        refine r_iload dX9_visit_116 rfl ?_
        exact r_iret dX9_visit_118 ⟨_, rfl, hF, e1, fun s hs => by rw [hp1 s hs, e2]⟩
      · skip
        have hi : i < mostF (zk σ t) := lp_lt (n := mostF (zk σ t)) hv rfl c76 him (by have := hm2; omega)
        obtain ⟨n2, en2⟩ : ∃ n2, mostF (zk σ t) - i = n2 + 1 := ⟨mostF (zk σ t) - i - 1, by omega⟩
        rw [en2, takeF_s ej (by omega)] at e1 e2
        refine r_aload_n dX9_visit_79 rfl ?_
        refine r_getR flX9_28_9 rfl (hs1.lt (by decide)) (hs1.T 44 rfl) (hs1.R 44 16 rfl) dX9_visit_80 ?_
        refine r_iload dX9_visit_83 rfl ?_
        refine r_aload_n dX9_visit_85 rfl ?_
        refine r_iload_n dX9_visit_86 rfl ?_
        refine r_iload_n dX9_visit_87 rfl ?_
        refine r_cV2i cvX9_141 (kX9_toOf g M1 hs1 σ w V1 pd p hp t htN) (hs1.lt (by decide)) (hs1.T 44 rfl) ⟨Nat.le_of_ble_eq_true rfl, Nat.le_of_ble_eq_true rfl⟩ (Nat.le_of_ble_eq_true rfl) ⟨Nat.le_of_ble_eq_true rfl, Nat.le_of_ble_eq_true rfl⟩ dX9_visit_88 (fun r88 M88 h88 => ?_)
        obtain ⟨e88, h88⟩ := h88
        replace e88 := e88.symm
        subst e88
        subst h88
        refine r_ias (hs1.T 51 rfl) (hs1.lt (by decide)) (ix_of (hq.trans ej) hj8 (by decide)) dX9_visit_91 ?_
        have hF2 := hF.sI (a := 51) (k := j) (v := toF σ (pd t) t) (by simp)
        have hs2 := hs.fr hF2
        have V2 := V.fr hF2 (by simp)
        have hp2 : ∀ s, s < zS σ → mI (sI M1 51 j (toF σ (pd t) t)) 51 s = va_up ps1 j (toF σ (pd t) t) s := fun s hs => by
          rw [mI_sI, va_up_if, va_up_if]
          split
          · rfl
          · exact hp1 s hs
        refine r_iinc dX9_visit_92 rfl rfl rfl ?_
        refine r_aload_n dX9_visit_95 rfl ?_
        refine r_iload_n dX9_visit_96 rfl ?_
        refine r_dia (P := fun u => u = (if zk σ t = 2 then (1 : Int32) else 0)) 108 (fun u hu => ?_) (fun hJ108 => ?_)
        · skip
          refine r_cV2i cvX9_137 (kX9_pick g (sI M1 51 j (toF σ (pd t) t)) hs2 σ w V2 (va_up ps1 j (toF σ (pd t) t)) hp2 (frF σ (pd t) t) u (zk σ t) hu) (hs2.lt (by decide)) (hs2.T 44 rfl) ⟨Nat.le_of_ble_eq_true rfl, Nat.le_of_ble_eq_true rfl⟩ (Nat.le_of_ble_eq_true rfl) ⟨Nat.le_of_ble_eq_true rfl, Nat.le_of_ble_eq_true rfl⟩ dX9_visit_108 (fun r108 M108 h108 => ?_)
          obtain ⟨e108, h108⟩ := h108
          replace e108 := e108.symm
          subst e108
          refine r_istore dX9_visit_111 (by decide) rfl ?_
          refine r_goto 66 dX9_visit_113 (by decide) ?_
          exact r_lv (lvSc rfl (lvSc rfl (lvSc rfl (lvSc rfl (lvSc rfl (lvSc rfl (lvSc rfl (lvSc rfl lvS0)))))))) (ih (i + 1) _ _ _ (va_up ps1 j (toF σ (pd t) t)) (by omega) (by omega) (nI_inc hv) hF2 hp2 h108 (by rw [show mostF (zk σ t) - (i + 1) = n2 by omega, ← e1]; show _ + (v + 1) = _ + 1 + v; grind) (by rw [show mostF (zk σ t) - (i + 1) = n2 by omega]; exact e2))
        · skip
          refine r_iload dX9_visit_97 rfl ?_
          refine r_iconst (v := 2) dX9_visit_99 (by decide) ?_
          refine r_icmp_ne 107 dX9_visit_100 (by decide) (fun c100 => ?_) (fun c100 => ?_)
          · skip
            have hfin := k2_f (k := zk σ t) rfl c100
            refine r_iconst (v := 0) dX9_visit_107 (by decide) ?_
            exact hJ108 _ hfin
          · skip
            have hfin := k2_t (k := zk σ t) hk5 rfl c100
            refine r_iconst (v := 1) dX9_visit_103 (by decide) ?_
            refine r_goto 108 dX9_visit_104 (by decide) ?_
            exact hJ108 _ hfin
set_option maxHeartbeats 4000000 in
set_option maxRecDepth 100000 in
theorem kX9_visit (g : Gx) (M : Mm) (hs : St M) (σ : Ab) (w : Wf σ) (V : RV1 σ M) (pd dg lo ps : Rw) (D : RD M σ dg lo ps) (hlo : ∀ h, h < 8 → 0 ≤ lo h) (p : Int32) (hp : ∀ t, t < zN σ → bitI p t = pd t) (t : Nat) (htN : t < zN σ) : Ct g yX9_visit cX9_visit 8 (Option.some FieldType.int) rmX9_visit [.ref (g.1 + 44), .int (nI t), .int p] M (pI fun r M' => Fr [51] [] M M' ∧ r = (visitF σ pd dg lo t ps).1 ∧ ∀ s, s < zS σ → mI M' 51 s = (visitF σ pd dg lo t ps).2 s) := by
  have ht8 : t < 8 := Nat.lt_of_lt_of_le htN w.1
  have hk5 := (w.2.2.1 t htN).1
  have hm2 : mostF (zk σ t) ≤ 2 := by unfold mostF; split <;> (try split) <;> omega
  refine Ct.of rfl (Nat.le_of_ble_eq_true rfl) (fun x => ?_)
  refine r_aload_n dX9_visit_0 rfl ?_
  refine r_iload_n dX9_visit_1 rfl ?_
  refine r_iload_n dX9_visit_2 rfl ?_
  refine r_cV2i cvX9_130 (kX9_fromOf g M hs σ w V pd p hp t htN) (hs.lt (by decide)) (hs.T 44 rfl) ⟨Nat.le_of_ble_eq_true rfl, Nat.le_of_ble_eq_true rfl⟩ (Nat.le_of_ble_eq_true rfl) ⟨Nat.le_of_ble_eq_true rfl, Nat.le_of_ble_eq_true rfl⟩ dX9_visit_3 (fun r3 M3 h3 => ?_)
  obtain ⟨e3, h3⟩ := h3
  replace e3 := e3.symm
  subst e3
  subst h3
  obtain ⟨j, hj, ej⟩ := frF_8 w htN (pd t)
  have ecl : (frF σ (pd t) t).toNatClampNeg = j := by rw [ej]; exact nI_clamp (by omega)
  refine r_istore_n dX9_visit_6 (by decide) rfl ?_
  refine r_iconst (v := 0) dX9_visit_7 (by decide) ?_
  refine r_istore dX9_visit_8 (by decide) rfl ?_
  refine r_aload_n dX9_visit_10 rfl ?_
  refine r_iload_n dX9_visit_11 rfl ?_
  refine r_iload_n dX9_visit_12 rfl ?_
  refine r_cV2i cvX9_133 ((show Ct _ _ _ _ _ _ [.ref (g.1 + 44), .int (nI t), .int (frF σ (pd t) t)] _ _ from by rw [ej]; exact kX9_mayTake g M hs σ w V dg lo ps D hlo t htN j hj)) (hs.lt (by decide)) (hs.T 44 rfl) ⟨Nat.le_of_ble_eq_true rfl, Nat.le_of_ble_eq_true rfl⟩ (Nat.le_of_ble_eq_true rfl) ⟨Nat.le_of_ble_eq_true rfl, Nat.le_of_ble_eq_true rfl⟩ dX9_visit_13 (fun r13 M13 h13 => ?_)
  obtain ⟨e13, h13⟩ := h13
  replace e13 := e13.symm
  subst e13
  rw [← ecl] at h13
  refine r_if_eq 116 dX9_visit_16 (by decide) (fun c16 => ?_) (fun c16 => ?_)
  · skip
    have hno := visitF_n (σ := σ) (ps := ps) (h13.resolve_left (fun z => absurd (z.1.symm.trans c16) (by decide))).2
    refine r_iload dX9_visit_116 rfl ?_
    exact r_iret dX9_visit_118 ⟨_, rfl, Fr.rf _ _ _, by rw [hno], fun s hs => by rw [hno]; exact D.1 s hs⟩
  · skip
    have htk := (h13.resolve_right (fun z => c16 z.1)).2
    refine r_aload_n dX9_visit_19 rfl ?_
    refine r_getR flX9_16_9 rfl (hs.lt (by decide)) (hs.T 44 rfl) (hs.R 44 7 rfl) dX9_visit_20 ?_
    refine r_iconst (v := 4) dX9_visit_23 (by decide) ?_
    refine r_iload_n dX9_visit_24 rfl ?_
    refine r_imul dX9_visit_25 ?_
    refine r_ial (hs.T 47 rfl) (hs.lt (by decide)) (ix40 (by omega) (by decide)) dX9_visit_26 ?_
    refine r_istore dX9_visit_27 (by decide) rfl ?_
    rw [show mI M 47 (4 * t) = nI (zk σ t) from (V.2.2.1 t htN).1]
    refine r_dia (P := fun u => u = nI (mostF (zk σ t))) 46 (fun mo hmo => ?_) (fun hJ46 => ?_)
    · skip
      subst hmo
      refine r_istore dX9_visit_46 (by decide) rfl ?_
      refine r_aload_n dX9_visit_48 rfl ?_
      refine r_iload_n dX9_visit_49 rfl ?_
      refine r_dia (P := fun u => u = (if zk σ t = 2 then (1 : Int32) else 0)) 61 (fun u hu => ?_) (fun hJ61 => ?_)
      · skip
        refine r_cV2i cvX9_137 (kX9_pick g M hs σ w V ps D.1 (frF σ (pd t) t) u (zk σ t) hu) (hs.lt (by decide)) (hs.T 44 rfl) ⟨Nat.le_of_ble_eq_true rfl, Nat.le_of_ble_eq_true rfl⟩ (Nat.le_of_ble_eq_true rfl) ⟨Nat.le_of_ble_eq_true rfl, Nat.le_of_ble_eq_true rfl⟩ dX9_visit_61 (fun r61 M61 h61 => ?_)
        obtain ⟨e61, h61⟩ := h61
        replace e61 := e61.symm
        subst e61
        refine r_istore dX9_visit_64 (by decide) rfl ?_
        exact r_lv (lvSc rfl (lvSc rfl (lvSc rfl (lvSc rfl (lvSc rfl (lvSc rfl (lvSc rfl (lvSc rfl lvS0)))))))) (lp_rvisit g x M hs σ w V pd dg lo ps D hlo p hp t htN (visitF_0 htk.2) (mostF (zk σ t) + 1) 0 0 _ M ps (by omega) (by omega) rfl (Fr.rf _ _ _) D.1 h61 (by rw [visitF_0 htk.2]; exact Int32.add_zero _) (by rw [visitF_0 htk.2]; rfl))
      · skip
        refine r_iload dX9_visit_50 rfl ?_
        refine r_iconst (v := 2) dX9_visit_52 (by decide) ?_
        refine r_icmp_ne 60 dX9_visit_53 (by decide) (fun c53 => ?_) (fun c53 => ?_)
        · skip
          have hfin := k2_f (k := zk σ t) rfl c53
          refine r_iconst (v := 0) dX9_visit_60 (by decide) ?_
          exact hJ61 _ hfin
        · skip
          have hfin := k2_t (k := zk σ t) hk5 rfl c53
          refine r_iconst (v := 1) dX9_visit_56 (by decide) ?_
          refine r_goto 61 dX9_visit_57 (by decide) ?_
          exact hJ61 _ hfin
    · skip
      refine r_iload dX9_visit_29 rfl ?_
      refine r_iconst (v := 1) dX9_visit_31 (by decide) ?_
      refine r_icmp_eq 41 dX9_visit_32 (by decide) (fun c32 => ?_) (fun c32 => ?_)
      · skip
        have hfin := most_2 htk.1 (Or.inl ((eqk (c := 1) hk5 (by decide) rfl).mp c32))
        refine r_iconst (v := 2) dX9_visit_41 (by decide) ?_
        refine r_goto 46 dX9_visit_42 (by decide) ?_
        exact hJ46 _ hfin
      · skip
        have c33 : ¬ zk σ t = 1 := fun z => c32 (by rw [z]; rfl)
        refine r_iload dX9_visit_35 rfl ?_
        refine r_iconst (v := 4) dX9_visit_37 (by decide) ?_
        refine r_icmp_ne 45 dX9_visit_38 (by decide) (fun c38 => ?_) (fun c38 => ?_)
        · skip
          have hfin := most_1 htk.1 (fun z => z.elim c33 (fun z => c38 (by rw [z]; rfl)))
          refine r_iconst (v := 1) dX9_visit_45 (by decide) ?_
          exact hJ46 _ hfin
        · skip
          have hfin := most_2 htk.1 (Or.inr ((eqk (c := 4) hk5 (by decide) rfl).mp c38))
          refine r_iconst (v := 2) dX9_visit_41 (by decide) ?_
          refine r_goto 46 dX9_visit_42 (by decide) ?_
          exact hJ46 _ hfin
def rmX9_pass : Room := { frames := 2, cells := 0, slots := 0, locals := 53 }
theorem lap_u {v d : Int32} (h : 0 ≤ v) (hd : d = if 0 < v then 1 else 0) : v - d = if 0 < v then v - 1 else 0 := by
  rw [hd]
  split <;> grind
theorem RD.f1 {M M' : Mm} {σ : Ab} {dg lo ps ps' : Rw} (h : RD M σ dg lo ps) (f : Fr [51] [] M M') (e : ∀ s, s < zS σ → mI M' 51 s = ps' s) : RD M' σ dg lo ps' :=
  ⟨e, fun k hk => by rw [f.2.1 52 (by decide)]; exact h.2.1 k hk, fun k hk => by rw [f.2.1 44 (by decide)]; exact h.2.2 k hk⟩
set_option maxHeartbeats 4000000 in
set_option maxRecDepth 100000 in
theorem lp_rlapse (g : Gx) (x : Cx) (M0 : Mm) (M : Mm) (hs : St M) (σ : Ab) (pd dg lo ps ps0 : Rw) (D : RD M σ dg lo ps) (hlo : ∀ h, h < 8 → 0 ≤ lo h) (wh p tk : Int32) (etk : tk = (passF σ pd dg lo (fun t => bitI wh t = 1) ps0 (zN σ)).1) (eps : ps = (passF σ pd dg lo (fun t => bitI wh t = 1) ps0 (zN σ)).2) : ∀ (n : Nat) (i : Nat) (v : Int32) (M1 : Mm), i ≤ 8 → 8 - i < n → v = nI i → Fr [51, 52] [] M0 M1 → Fr [52] [] M M1 → (∀ h, h < i → mI M1 52 h = if 0 < lo h then lo h - 1 else 0) → (∀ h, i ≤ h → h < 8 → mI M1 52 h = lo h) → Vj x g yX9_pass cX9_pass 6 (Option.some FieldType.int) rmX9_pass (Qm x g rmX9_pass.cells rmX9_pass.slots (pI fun r M' => Fr [51, 52] [] M0 M' ∧ r = (passF σ pd dg lo (fun t => bitI wh t = 1) ps0 (zN σ)).1 ∧ RD M' σ dg (lapF lo) (passF σ pd dg lo (fun t => bitI wh t = 1) ps0 (zN σ)).2)) 0 0 M1 47 [(0, some (.ref (g.1 + 44))), (1, some (.int wh)), (2, some (.int p)), (3, some (.int tk)), (4, some (.int v))] [] := by
  intro n
  induction n with
  | zero => intro i v M1 hi8 hn hv hF hF3 ea eb; omega
  | succ n ih =>
    intro i v M1 hi8 hn hv hF hF3 ea eb
    have hs1 := hs.fr hF3
    subst hv
    have hv : nI i = nI i := rfl
    subst eps
    refine r_iload dX9_pass_47 rfl ?_
    refine r_bipush (v := 8) dX9_pass_49 (by decide) ?_
    refine r_icmp_ge 85 dX9_pass_51 (by decide) (fun c51 => ?_) (fun c51 => ?_)
    · skip
      have e0 := lp_ge (n := 8) hv rfl c51 hi8 (by decide)
      subst e0
      refine r_iload_n dX9_pass_85 rfl ?_
      exact r_iret dX9_pass_86 ⟨_, rfl, hF, etk, fun s hs => by rw [hF3.2.1 51 (by decide)]; exact D.1 s hs, fun h h8 => by rw [ea h h8, lapF, if_pos h8], fun h h8 => by rw [hF3.2.1 44 (by decide)]; exact D.2.2 h h8⟩
    · skip
      have hi : i < 8 := lp_lt (n := 8) hv rfl c51 hi8 (by decide)
      have hv1 : mI M1 52 i = lo i := eb i (by omega) hi
      refine r_aload_n dX9_pass_54 rfl ?_
      refine r_getR flX9_31_9 rfl (hs1.lt (by decide)) (hs1.T 44 rfl) (hs1.R 44 17 rfl) dX9_pass_55 ?_
      refine r_iload dX9_pass_58 rfl ?_
      refine r_dup2 dX9_pass_60 rfl rfl ?_
      refine r_ial (hs1.T 52 rfl) (hs1.lt (by decide)) (ix_nI hi (by decide)) dX9_pass_61 ?_
      refine r_dia (P := fun u => u = (if 0 < mI M1 52 i then (1 : Int32) else 0)) 77 (fun u hu => ?_) (fun hJ77 => ?_)
      · skip
        refine r_isub dX9_pass_77 ?_
        refine r_ias (hs1.T 52 rfl) (hs1.lt (by decide)) (ix_nI hi (by decide)) dX9_pass_78 ?_
        refine r_iinc dX9_pass_79 rfl rfl rfl ?_
        refine r_goto 47 dX9_pass_82 (by decide) ?_
        exact r_lv (lvSc rfl (lvSc rfl (lvSc rfl (lvSc rfl (lvSc rfl lvS0))))) (ih (i + 1) _ _ (by omega) (by omega) (nI_inc rfl) (hF.sI (by simp)) (hF3.sI (by simp)) (fun h hh => by
          rw [mI_sI, va_up_if]
          split
          · next e => rw [lap_u (by rw [hv1]; exact hlo i hi) hu, hv1, e]
          · exact ea h (by omega)) (fun h hh h8 => by rw [mI_sI, va_up_ne _ _ (by omega)]; exact eb h (by omega) h8))
      · skip
        refine r_aload_n dX9_pass_62 rfl ?_
        refine r_getR flX9_31_9 rfl (hs1.lt (by decide)) (hs1.T 44 rfl) (hs1.R 44 17 rfl) dX9_pass_63 ?_
        refine r_iload dX9_pass_66 rfl ?_
        refine r_ial (hs1.T 52 rfl) (hs1.lt (by decide)) (ix_nI hi (by decide)) dX9_pass_68 ?_
        refine r_if_le 76 dX9_pass_69 (by decide) (fun c69 => ?_) (fun c69 => ?_)
        · skip
          have hfin : (0 : Int32) = (if 0 < mI M1 52 i then (1 : Int32) else 0) := by rw [if_neg (Int32.not_lt.mpr c69)]
          refine r_iconst (v := 0) dX9_pass_76 (by decide) ?_
          exact hJ77 _ hfin
        · skip
          have hfin : (1 : Int32) = (if 0 < mI M1 52 i then (1 : Int32) else 0) := by rw [if_pos (Int32.not_le.mp c69)]
          refine r_iconst (v := 1) dX9_pass_72 (by decide) ?_
          refine r_goto 77 dX9_pass_73 (by decide) ?_
          exact hJ77 _ hfin
set_option maxHeartbeats 4000000 in
set_option maxRecDepth 100000 in
theorem lp_rpass (g : Gx) (x : Cx) (M : Mm) (hs : St M) (σ : Ab) (w : Wf σ) (V : RV1 σ M) (pd dg lo ps : Rw) (D : RD M σ dg lo ps) (hlo : ∀ h, h < 8 → 0 ≤ lo h) (wh p : Int32) (hp : ∀ t, t < zN σ → bitI p t = pd t) : ∀ (n : Nat) (i : Nat) (v tk : Int32) (M1 : Mm), i ≤ zN σ → zN σ - i < n → v = nI i → Fr [51] [] M M1 → tk = (passF σ pd dg lo (fun t => bitI wh t = 1) ps i).1 → RD M1 σ dg lo (passF σ pd dg lo (fun t => bitI wh t = 1) ps i).2 → Vj x g yX9_pass cX9_pass 6 (Option.some FieldType.int) rmX9_pass (Qm x g rmX9_pass.cells rmX9_pass.slots (pI fun r M' => Fr [51, 52] [] M M' ∧ r = (passF σ pd dg lo (fun t => bitI wh t = 1) ps (zN σ)).1 ∧ RD M' σ dg (lapF lo) (passF σ pd dg lo (fun t => bitI wh t = 1) ps (zN σ)).2)) 0 0 M1 5 [(0, some (.ref (g.1 + 44))), (1, some (.int wh)), (2, some (.int p)), (3, some (.int tk)), (4, some (.int v))] [] := by
  intro n
  induction n with
  | zero => intro i v tk M1 hiN hn hv hF etk D1; omega
  | succ n ih =>
    intro i v tk M1 hiN hn hv hF etk D1
    have hs1 := hs.fr hF
    have V1 := V.fr hF (by simp)
    subst hv
    have hv : nI i = nI i := rfl
    refine r_iload dX9_pass_5 rfl ?_
    refine r_aload_n dX9_pass_7 rfl ?_
    refine r_getI flX9_91_9 rfl (hs1.lt (by decide)) (hs1.T 44 rfl) dX9_pass_8 ?_
    refine r_icmp_ge 44 dX9_pass_11 (by decide) (fun c11 => ?_) (fun c11 => ?_)
    · skip
      have e0 := lp_ge (n := zN σ) hv V1.1 c11 hiN (by have := w.1; omega)
      subst e0
      refine r_iconst (v := 0) dX9_pass_44 (by decide) ?_
      refine r_istore dX9_pass_45 (by decide) rfl ?_
      exact r_lv (lvSc rfl (lvSc rfl (lvSc rfl (lvSc rfl (lvSc rfl lvS0))))) (lp_rlapse g x M M1 hs1 σ pd dg lo _ ps D1 hlo wh p tk etk rfl 9 0 0 M1 (by omega) (by omega) rfl (hF.mono (by simp) (by simp)) (Fr.rf _ _ _) (fun h hh => by omega) (fun h _ h8 => D1.2.1 h h8))
    · skip
      have hi : i < zN σ := lp_lt (n := zN σ) hv V1.1 c11 hiN (by have := w.1; omega)
      refine r_iload_n dX9_pass_14 rfl ?_
      refine r_iload dX9_pass_15 rfl ?_
      refine r_ishr dX9_pass_17 ?_
      refine r_iconst (v := 1) dX9_pass_18 (by decide) ?_
      refine r_iand dX9_pass_19 ?_
      refine r_iconst (v := 1) dX9_pass_20 (by decide) ?_
      refine r_icmp_ne 38 dX9_pass_21 (by decide) (fun c21 => ?_) (fun c21 => ?_)
      · skip
        refine r_iinc dX9_pass_38 rfl rfl rfl ?_
        refine r_goto 5 dX9_pass_41 (by decide) ?_
        exact r_lv (lvSc rfl (lvSc rfl (lvSc rfl (lvSc rfl (lvSc rfl lvS0))))) (ih (i + 1) _ _ _ (by omega) (by omega) (nI_inc rfl) hF (by rw [passF_s0 (show ¬ bitI wh i = 1 from c21), etk]) (by rw [passF_s0 (show ¬ bitI wh i = 1 from c21)]; exact D1))
      · skip
        refine r_aload_n dX9_pass_24 rfl ?_
        refine r_iload dX9_pass_25 rfl ?_
        refine r_iload_n dX9_pass_27 rfl ?_
        refine r_cV2i cvX9_144 (kX9_visit g M1 hs1 σ w V1 pd dg lo _ D1 hlo p hp i hi) (hs1.lt (by decide)) (hs1.T 44 rfl) ⟨Nat.le_of_ble_eq_true rfl, Nat.le_of_ble_eq_true rfl⟩ (Nat.le_of_ble_eq_true rfl) ⟨Nat.le_of_ble_eq_true rfl, Nat.le_of_ble_eq_true rfl⟩ dX9_pass_28 (fun r28 M28 h28 => ?_)
        obtain ⟨hF2, e2, e3⟩ := h28
        refine r_istore dX9_pass_31 (by decide) rfl ?_
        refine r_iload_n dX9_pass_33 rfl ?_
        refine r_iload dX9_pass_34 rfl ?_
        refine r_iadd dX9_pass_36 ?_
        refine r_istore_n dX9_pass_37 (by decide) rfl ?_
        refine r_iinc dX9_pass_38 rfl rfl rfl ?_
        refine r_goto 5 dX9_pass_41 (by decide) ?_
        exact r_lv (lvSc rfl (lvSc rfl (lvSc rfl (lvSc rfl (lvSc rfl lvS0))))) (ih (i + 1) _ _ _ (by omega) (by omega) (nI_inc rfl) (hF.tr hF2) (by rw [passF_s1 (show bitI wh i = 1 from c21), etk, e2]) (by rw [passF_s1 (show bitI wh i = 1 from c21)]; exact D1.f1 hF2 e3))
set_option maxHeartbeats 4000000 in
set_option maxRecDepth 100000 in
theorem kX9_pass (g : Gx) (M : Mm) (hs : St M) (σ : Ab) (w : Wf σ) (V : RV1 σ M) (pd dg lo ps : Rw) (D : RD M σ dg lo ps) (hlo : ∀ h, h < 8 → 0 ≤ lo h) (wh p : Int32) (hp : ∀ t, t < zN σ → bitI p t = pd t) : Ct g yX9_pass cX9_pass 6 (Option.some FieldType.int) rmX9_pass [.ref (g.1 + 44), .int wh, .int p] M (pI fun r M' => Fr [51, 52] [] M M' ∧ r = (passF σ pd dg lo (fun t => bitI wh t = 1) ps (zN σ)).1 ∧ RD M' σ dg (lapF lo) (passF σ pd dg lo (fun t => bitI wh t = 1) ps (zN σ)).2) := by
  refine Ct.of rfl (Nat.le_of_ble_eq_true rfl) (fun x => ?_)
  refine r_iconst (v := 0) dX9_pass_0 (by decide) ?_
  refine r_istore_n dX9_pass_1 (by decide) rfl ?_
  refine r_iconst (v := 0) dX9_pass_2 (by decide) ?_
  refine r_istore dX9_pass_3 (by decide) rfl ?_
  exact r_lv (lvSc rfl (lvSc rfl (lvSc rfl (lvSc rfl (lvSc rfl lvS0))))) (lp_rpass g x M hs σ w V pd dg lo ps D hlo wh p hp (zN σ + 1) 0 0 0 M (by omega) (by omega) rfl (Fr.rf _ _ _) rfl D)
def rmX9_begin : Room := { frames := 0, cells := 0, slots := 0, locals := 0 }
set_option maxHeartbeats 4000000 in
set_option maxRecDepth 100000 in
theorem lp_rbegin (g : Gx) (x : Cx) (M : Mm) (σ : Ab) (δ : Dy) (C : RA σ δ M) : ∀ (n : Nat) (i : Nat) (v : Int32) (M1 : Mm), i ≤ 8 → 8 - i < n → v = nI i → Fr [51, 52] [] M M1 → (∀ s, s < i → s < zS σ → mI M1 51 s = yp δ s) → (∀ h, h < i → mI M1 52 h = yl δ h) → Vj x g yX9_begin cX9_begin 2 none rmX9_begin (Qm x g rmX9_begin.cells rmX9_begin.slots (pV fun M' => Fr [51, 52] [] M M' ∧ RD M' σ (yd δ) (yl δ) (yp δ))) 0 0 M1 2 [(0, some (.ref (g.1 + 44))), (1, some (.int v))] [] := by
  intro n
  induction n with
  | zero => intro i v M1 hi8 hn hv hF ea eb; omega
  | succ n ih =>
    intro i v M1 hi8 hn hv hF ea eb
    obtain ⟨hs, w, dw, V, r1, r2, r3, r4, r5, r6, r7⟩ := C
    have hs1 := hs.fr hF
    subst hv
    have hv : nI i = nI i := rfl
    refine r_iload_n dX9_begin_2 rfl ?_
    refine r_bipush (v := 8) dX9_begin_3 (by decide) ?_
    refine r_icmp_ge 54 dX9_begin_5 (by decide) (fun c5 => ?_) (fun c5 => ?_)
    · skip
      have e0 := lp_ge (n := 8) hv rfl c5 hi8 (by decide)
      subst e0
      exact r_ret dX9_begin_54 ⟨rfl, hF, fun s hs => ea s (by have := w.2.1; omega) hs, eb, fun h h8 => by rw [hF.2.1 44 (by decide)]; exact r3 h h8⟩
    · skip
      have hi : i < 8 := lp_lt (n := 8) hv rfl c5 hi8 (by decide)
      refine r_aload_n dX9_begin_8 rfl ?_
      refine r_getR flX9_28_9 rfl (hs1.lt (by decide)) (hs1.T 44 rfl) (hs1.R 44 16 rfl) dX9_begin_9 ?_
      refine r_iload_n dX9_begin_12 rfl ?_
      refine r_dia (P := fun u => i < zS σ → u = yp δ i) 35 (fun u hu => ?_) (fun hJ35 => ?_)
      · skip
        refine r_ias (hs1.T 51 rfl) (hs1.lt (by decide)) (ix_nI hi (by decide)) dX9_begin_35 ?_
        refine r_aload_n dX9_begin_36 rfl ?_
        refine r_getR flX9_31_9 rfl (hs1.lt (by decide)) (hs1.T 44 rfl) (hs1.R 44 17 rfl) dX9_begin_37 ?_
        refine r_iload_n dX9_begin_40 rfl ?_
        refine r_aload_n dX9_begin_41 rfl ?_
        refine r_getR flX9_22_9 rfl (hs1.lt (by decide)) (hs1.T 44 rfl) (hs1.R 44 14 rfl) dX9_begin_42 ?_
        refine r_iload_n dX9_begin_45 rfl ?_
        refine r_ial (hs1.T 49 rfl) (hs1.lt (by decide)) (ix_nI hi (by decide)) dX9_begin_46 ?_
        refine r_ias (hs1.T 52 rfl) (hs1.lt (by decide)) (ix_nI hi (by decide)) dX9_begin_47 ?_
        refine r_iinc dX9_begin_48 rfl rfl rfl ?_
        refine r_goto 2 dX9_begin_51 (by decide) ?_
        exact r_lv (lvSc rfl (lvSc rfl lvS0)) (ih (i + 1) _ _ (by omega) (by omega) (nI_inc rfl) ((hF.sI (by simp)).sI (by simp)) (fun s hh hS => by
          rw [mI_sI_ne (by decide), mI_sI, va_up_if]
          split
          · next e => rw [e]; exact hu (by omega)
          · exact ea s (by omega) hS) (fun h hh => by
          rw [mI_sI, va_up_if]
          split
          · next e => rw [mI_sI_ne (by decide), hF.2.1 49 (by decide), e]; exact r2 i hi
          · rw [mI_sI_ne (by decide)]; exact eb h (by omega)))
      · skip
        refine r_iload_n dX9_begin_13 rfl ?_
        refine r_aload_n dX9_begin_14 rfl ?_
        refine r_getI flX9_113_9 rfl (hs1.lt (by decide)) (hs1.T 44 rfl) dX9_begin_15 ?_
        refine r_icmp_ge 34 dX9_begin_18 (by decide) (fun c18 => ?_) (fun c18 => ?_)
        · skip
          have hfin : i < zS σ → (-1 : Int32) = yp δ i := fun z => by
            exfalso
            rw [hF.2.1 44 (by decide), V.2.1] at c18
            exact absurd ((nI_leI (by have := w.2.1; omega) (by omega)).mp c18) (by omega)
          refine r_iconst (v := -1) dX9_begin_34 (by decide) ?_
          exact hJ35 _ hfin
        · skip
          refine r_aload_n dX9_begin_21 rfl ?_
          refine r_getR flX9_25_9 rfl (hs1.lt (by decide)) (hs1.T 44 rfl) (hs1.R 44 15 rfl) dX9_begin_22 ?_
          refine r_iconst (v := 4) dX9_begin_25 (by decide) ?_
          refine r_iload_n dX9_begin_26 rfl ?_
          refine r_imul dX9_begin_27 ?_
          refine r_iconst (v := 2) dX9_begin_28 (by decide) ?_
          refine r_iadd dX9_begin_29 ?_
          refine r_ial (hs1.T 50 rfl) (hs1.lt (by decide)) (ix4 (c := 2) (by omega) (by decide)) dX9_begin_30 ?_
          have hfin : i < zS σ → mI M1 50 (4 * i + 2) = yp δ i := fun z => by rw [hF.2.1 50 (by decide)]; exact (r1 i z).1
          refine r_goto 35 dX9_begin_31 (by decide) ?_
          exact hJ35 _ hfin
set_option maxHeartbeats 4000000 in
set_option maxRecDepth 100000 in
theorem kX9_begin (g : Gx) (M : Mm) (σ : Ab) (δ : Dy) (C : RA σ δ M) : Ct g yX9_begin cX9_begin 2 none rmX9_begin [.ref (g.1 + 44)] M (pV fun M' => Fr [51, 52] [] M M' ∧ RD M' σ (yd δ) (yl δ) (yp δ)) := by
  refine Ct.of rfl (Nat.le_of_ble_eq_true rfl) (fun x => ?_)
  refine r_iconst (v := 0) dX9_begin_0 (by decide) ?_
  refine r_istore_n dX9_begin_1 (by decide) rfl ?_
  exact r_lv (lvSc rfl (lvSc rfl lvS0)) (lp_rbegin g x M σ δ C 9 0 0 M (by omega) (by omega) rfl (Fr.rf _ _ _) (fun s hh _ => by omega) (fun s hh => by omega))
