def rmX8_greatestDivisor : Room := { frames := 0, cells := 0, slots := 0, locals := 0 }
set_option maxHeartbeats 4000000 in
set_option maxRecDepth 100000 in
theorem lp_gcd (g : Gx) (x : Cx) (M : Mm) (p q : Int64) : ∀ (n : Nat) (i : Nat) (v : Int32) (a b : Int64), i ≤ 200 → 200 - i < n → v = nI i → euP (200 - i) a b = euP 200 p q → Vj x g yX8_greatestDivisor cX8_greatestDivisor 7 (Option.some FieldType.long) rmX8_greatestDivisor (Qm x g rmX8_greatestDivisor.cells rmX8_greatestDivisor.slots (pL fun r M' => M' = M ∧ r = (euP 200 p q).1)) 0 0 M 3 [(0, some (.long a)), (2, some (.long b)), (4, some (.int v))] [] := by
  intro n
  induction n with
  | zero => intro i v a b hi8 hn hv eQ; omega
  | succ n ih =>
    intro i v a b hi8 hn hv eQ
    refine r_iload dX8_greatestDivisor_3 rfl ?_
    refine r_sipush (v := 200) dX8_greatestDivisor_5 (by decide) ?_
    refine r_icmp_ge 33 dX8_greatestDivisor_8 (by decide) (fun c8 => ?_) (fun c8 => ?_)
    · skip
      have e0 := lp_ge (n := 200) hv rfl c8 hi8 (by decide)
      rw [e0] at eQ
      refine r_lload_n dX8_greatestDivisor_33 rfl ?_
      exact r_lret dX8_greatestDivisor_34 ⟨_, rfl, rfl, by rw [← eQ] <;> rfl⟩
    · skip
      have hi : i < 200 := lp_lt (n := 200) hv rfl c8 hi8 (by decide)
      obtain ⟨n2, en2⟩ : ∃ n2, 200 - i = n2 + 1 := ⟨200 - i - 1, by omega⟩
      refine r_lload_n dX8_greatestDivisor_11 rfl ?_
      refine r_lconst (v := 0) dX8_greatestDivisor_12 (by decide) ?_
      refine r_lcmp dX8_greatestDivisor_13 ?_
      refine r_if_eq 33 dX8_greatestDivisor_14 (by decide) (fun c14 => ?_) (fun c14 => ?_)
      · skip
        rw [lgc0] at c14
        subst c14
        rw [euP_0] at eQ
        refine r_lload_n dX8_greatestDivisor_33 rfl ?_
        exact r_lret dX8_greatestDivisor_34 ⟨_, rfl, rfl, by rw [← eQ] <;> rfl⟩
      · skip
        rw [lgc0] at c14
        rw [en2, euP_s c14] at eQ
        refine r_lload_n dX8_greatestDivisor_17 rfl ?_
        refine r_lload_n dX8_greatestDivisor_18 rfl ?_
        refine r_lrem dX8_greatestDivisor_19 c14 ?_
        refine r_lstore dX8_greatestDivisor_20 (by decide) rfl ?_
        refine r_lload_n dX8_greatestDivisor_22 rfl ?_
        refine r_lstore_n dX8_greatestDivisor_23 (by decide) rfl ?_
        refine r_lload dX8_greatestDivisor_24 rfl ?_
        refine r_lstore_n dX8_greatestDivisor_26 (by decide) rfl ?_
        refine r_iinc dX8_greatestDivisor_27 rfl rfl rfl ?_
        refine r_goto 3 dX8_greatestDivisor_30 (by decide) ?_
        exact r_lv (lvSc rfl (lvSc rfl (lvSc rfl lvS0))) (ih (i + 1) _ _ _ (by omega) (by omega) (nI_inc hv) (by rw [show 200 - (i + 1) = n2 by omega]; exact eQ))
set_option maxHeartbeats 4000000 in
set_option maxRecDepth 100000 in
theorem kX8_greatestDivisor (g : Gx) (M : Mm) (p q : Int64) : Ct g yX8_greatestDivisor cX8_greatestDivisor 7 (Option.some FieldType.long) rmX8_greatestDivisor [.long p, .long q] M (pL fun r M' => M' = M ∧ r = (euP 200 p q).1) := by
  refine Ct.of rfl (Nat.le_of_ble_eq_true rfl) (fun x => ?_)
  refine r_iconst (v := 0) dX8_greatestDivisor_0 (by decide) ?_
  refine r_istore dX8_greatestDivisor_1 (by decide) rfl ?_
  exact r_lv (lvSc rfl (lvSc rfl (lvSc rfl lvS0))) (lp_gcd g x M p q 201 0 0 p q (by omega) (by omega) rfl rfl)
def rmX8_spreadBy : Room := { frames := 1, cells := 0, slots := 0, locals := 22 }
theorem mv_01 {σ : Ab} {pd dg lo te : Rw} {t : Nat} {od : Lw} {r : Int32} (h : (r = 1 ∧ takB (zk σ t) (dg (frF σ (pd t) t).toNatClampNeg) (lo (frF σ (pd t) t).toNatClampNeg)) ∨ (r = 0 ∧ ¬ takB (zk σ t) (dg (frF σ (pd t) t).toNatClampNeg) (lo (frF σ (pd t) t).toNatClampNeg))) : mvF σ pd dg lo te t od = if r = 0 then 0 else od (frF σ (pd t) t).toNatClampNeg * (te t).toInt64 := by
  rcases h with ⟨e, h⟩ | ⟨e, h⟩ <;> subst e
  · rw [mvF_1 h]; rfl
  · rw [mvF_0 h]; rfl
theorem spr_fin {od : Lw} {M1 M2 : Mm} {j l : Nat} {mv : Int64} (hj : j < 8) (hl : l < 8) (h : ∀ q, q < 8 → mL M1 32 q = tnL od q) (e : M2 = sL (sL M1 32 j (mL M1 32 j - mv)) 32 l (mL (sL M1 32 j (mL M1 32 j - mv)) 32 l + mv)) : ∀ q, q < 8 → mL M2 32 q = sprL od j l mv q := by
  intro q hq
  rw [e, sprL, mL_sL, mL_sL]
  simp only [va_up_if]
  rw [h j hj, h l hl, h q hq]
set_option maxHeartbeats 4000000 in
set_option maxRecDepth 100000 in
theorem lp_spr (g : Gx) (x : Cx) (M : Mm) (hs : St M) (σ : Ab) (w : Wf σ) (V : CV1 σ M) (pd dg lo ps te : Rw) (D : CD 25 M σ pd dg lo ps) (t : Nat) (htN : t < zN σ) (hte : mI M 31 t = te t) (od : Lw) (hod : ∀ h, h < 8 → mL M 32 h = od h) (fr to : Int32) (mv : Int64) (j l : Nat) (hj : j < 8) (hl : l < 8) (efr : fr = nI j) (eto : to = nI l) (hR : sprF σ pd dg lo te t od = sprL od j l mv) : ∀ (n : Nat) (i : Nat) (v : Int32) (M1 : Mm), i ≤ 8 → 8 - i < n → v = nI i → Fr [] [32] M M1 → (∀ q, q < i → mL M1 32 q = tnL od q) → (∀ q, i ≤ q → q < 8 → mL M1 32 q = od q) → Vj x g yX8_spreadBy cX8_spreadBy 9 none rmX8_spreadBy (Qm x g rmX8_spreadBy.cells rmX8_spreadBy.slots (pV fun M' => Fr [] [32] M M' ∧ ∀ h, h < 8 → mL M' 32 h = sprF σ pd dg lo te t od h)) 0 0 M1 114 [(0, some (.ref (g.1 + 0))), (3, some (.int fr)), (4, some (.int to)), (6, some (.long mv)), (8, some (.int v))] [] := by
  intro n
  induction n with
  | zero => intro i v M1 hi8 hn hv hF h1 h2; omega
  | succ n ih =>
    intro i v M1 hi8 hn hv hF h1 h2
    have hs1 := hs.fr hF
    refine r_iload dX8_spreadBy_114 rfl ?_
    refine r_bipush (v := 8) dX8_spreadBy_116 (by decide) ?_
    refine r_icmp_ge 140 dX8_spreadBy_118 (by decide) (fun c118 => ?_) (fun c118 => ?_)
    · skip
      have e0 := lp_ge (n := 8) hv rfl c118 hi8 (by decide)
      subst e0
      refine r_aload_n dX8_spreadBy_140 rfl ?_
      refine r_getR flX8_49_8 rfl (hs1.lt (by decide)) (hs1.T 0 rfl) (hs1.R 0 8 rfl) dX8_spreadBy_141 ?_
      refine r_iload_n dX8_spreadBy_144 rfl ?_
      refine r_dup2 dX8_spreadBy_145 rfl rfl ?_
      refine r_lal (hs1.T 32 rfl) (hs1.lt (by decide)) (ix_of efr hj (by decide)) dX8_spreadBy_146 ?_
      refine r_lload dX8_spreadBy_147 rfl ?_
      refine r_lsub dX8_spreadBy_149 ?_
      refine r_las (hs1.T 32 rfl) (hs1.lt (by decide)) (ix_of efr hj (by decide)) dX8_spreadBy_150 ?_
      refine r_aload_n dX8_spreadBy_151 rfl ?_
      refine r_getR flX8_49_8 rfl (hs1.lt (by decide)) (hs1.T 0 rfl) (hs1.R 0 8 rfl) dX8_spreadBy_152 ?_
      refine r_iload dX8_spreadBy_155 rfl ?_
      refine r_dup2 dX8_spreadBy_157 rfl rfl ?_
      refine r_lal (hs1.T 32 rfl) (hs1.lt (by decide)) (ix_of eto hl (by decide)) dX8_spreadBy_158 ?_
      refine r_lload dX8_spreadBy_159 rfl ?_
      refine r_ladd dX8_spreadBy_161 ?_
      refine r_las (hs1.T 32 rfl) (hs1.lt (by decide)) (ix_of eto hl (by decide)) dX8_spreadBy_162 ?_
      exact r_ret dX8_spreadBy_163 ⟨rfl, (hF.sL (by simp)).sL (by simp), fun q hq => by rw [hR]; exact spr_fin hj hl (fun q hq => h1 q hq) rfl q hq⟩
    · skip
      have hi : i < 8 := lp_lt (n := 8) hv rfl c118 hi8 (by decide)
      refine r_aload_n dX8_spreadBy_121 rfl ?_
      refine r_getR flX8_49_8 rfl (hs1.lt (by decide)) (hs1.T 0 rfl) (hs1.R 0 8 rfl) dX8_spreadBy_122 ?_
      refine r_iload dX8_spreadBy_125 rfl ?_
      refine r_dup2 dX8_spreadBy_127 rfl rfl ?_
      refine r_lal (hs1.T 32 rfl) (hs1.lt (by decide)) (ix_of hv hi (by decide)) dX8_spreadBy_128 ?_
      refine r_ldc2_w (v := 10) dX8_spreadBy_129 tw502 ?_
      refine r_lmul dX8_spreadBy_132 ?_
      refine r_las (hs1.T 32 rfl) (hs1.lt (by decide)) (ix_of hv hi (by decide)) dX8_spreadBy_133 ?_
      refine r_iinc dX8_spreadBy_134 rfl rfl rfl ?_
      refine r_goto 114 dX8_spreadBy_137 (by decide) ?_
      refine r_lv (lvSc rfl (lvSc rfl (lvSc rfl (lvSc rfl (lvSc rfl lvS0))))) (ih (i + 1) _ _ (by omega) (by omega) (nI_inc hv) (hF.sL (by simp)) (fun q hq => ?_) (fun q h3 h4 => ?_))
      · rw [mL_sL, va_up_if]
        by_cases e : q = i
        · rw [if_pos e, e, h2 i (by omega) hi]
          simp [tnL, hi]
        · rw [if_neg e]; exact h1 q (by omega)
      · rw [mL_sL, va_up_ne _ _ (by omega)]
        exact h2 q (by omega) h4
set_option maxHeartbeats 4000000 in
set_option maxRecDepth 100000 in
theorem kX8_spreadBy (g : Gx) (M : Mm) (hs : St M) (σ : Ab) (w : Wf σ) (V : CV1 σ M) (pd dg lo ps te : Rw) (D : CD 25 M σ pd dg lo ps) (t : Nat) (htN : t < zN σ) (hte : mI M 31 t = te t) (od : Lw) (hod : ∀ h, h < 8 → mL M 32 h = od h) : Ct g yX8_spreadBy cX8_spreadBy 9 none rmX8_spreadBy [.ref (g.1 + 0), .int (nI t)] M (pV fun M' => Fr [] [32] M M' ∧ ∀ h, h < 8 → mL M' 32 h = sprF σ pd dg lo te t od h) := by
  obtain ⟨a, eR, ha, ht, ek, ep, er, -, -, -⟩ := hs.th w V htN
  have ht8 : t < 8 := Nat.lt_of_lt_of_le htN w.1
  refine Ct.of rfl (Nat.le_of_ble_eq_true rfl) (fun x => ?_)
  refine r_aload_n dX8_spreadBy_0 rfl ?_
  refine r_getR flX8_25_8 rfl (hs.lt (by decide)) (hs.T 0 rfl) (hs.R 0 2 rfl) dX8_spreadBy_1 ?_
  refine r_iload_n dX8_spreadBy_4 rfl ?_
  refine r_aal (hs.T 8 rfl) (hs.lt (by decide)) (ix_nI ht8 (by decide)) eR dX8_spreadBy_5 ?_
  refine r_astore_n dX8_spreadBy_6 (by decide) rfl ?_
  refine r_aload_n dX8_spreadBy_7 rfl ?_
  refine r_aload_n dX8_spreadBy_8 rfl ?_
  refine r_getR flX8_46_8 rfl (hs.lt (by decide)) (hs.T 0 rfl) (hs.R 0 7 rfl) dX8_spreadBy_9 ?_
  refine r_getR flX8_126_1 rfl (hs.lt (by decide)) (hs.T 25 rfl) (hs.R 25 4 rfl) dX8_spreadBy_12 ?_
  refine r_iload_n dX8_spreadBy_15 rfl ?_
  refine r_zal (hs.T 30 rfl) (hs.lt (by decide)) (ix_nI ht8 (by decide)) dX8_spreadBy_16 ?_
  refine r_v_robs rfl ha ht ⟨Nat.le_of_ble_eq_true rfl, Nat.le_of_ble_eq_true rfl⟩ (Nat.le_of_ble_eq_true rfl) ⟨Nat.le_of_ble_eq_true rfl, Nat.le_of_ble_eq_true rfl⟩ dX8_spreadBy_17 ?_
  refine r_top (fun fr hfr => ?_)
  refine r_istore_n dX8_spreadBy_20 (by decide) rfl ?_
  refine r_aload_n dX8_spreadBy_21 rfl ?_
  refine r_dia (P := fun v => v = (if pd t = 0 then (1 : Int32) else 0)) 39 (fun np hnp => ?_) (fun hJ39 => ?_)
  · skip
    refine r_v_robs rfl ha ht ⟨Nat.le_of_ble_eq_true rfl, Nat.le_of_ble_eq_true rfl⟩ (Nat.le_of_ble_eq_true rfl) ⟨Nat.le_of_ble_eq_true rfl, Nat.le_of_ble_eq_true rfl⟩ dX8_spreadBy_39 ?_
    refine r_top (fun to hto => ?_)
    refine r_istore dX8_spreadBy_42 (by decide) rfl ?_
    have efr : fr = frF σ (pd t) t := by rw [hfr, show mI M 30 t = pd t from (D.2.2.2 t htN).1, ep, er]; rfl
    have eto : to = toF σ (pd t) t := by rw [hto, hnp, ep, er, toF_1 (D.2.2.2 t htN).2]
    obtain ⟨j, hj, ej⟩ := frF_8 w htN (pd t)
    have ej2 := efr.trans ej
    obtain ⟨l, hl, el⟩ := toF_8 w htN (pd t)
    have el2 := eto.trans el
    have cj : (frF σ (pd t) t).toNatClampNeg = j := by rw [ej]; exact nI_clamp (by omega)
    have cl : (toF σ (pd t) t).toNatClampNeg = l := by rw [el]; exact nI_clamp (by omega)
    refine r_dia (P := fun v => (v = 1 ∧ takB (zk σ t) (dg j) (lo j)) ∨ (v = 0 ∧ ¬ takB (zk σ t) (dg j) (lo j))) 81 (fun tk htk => ?_) (fun hJ81 => ?_)
    · skip
      refine r_istore dX8_spreadBy_81 (by decide) rfl ?_
      refine r_diaL (P := fun u => u = mvF σ pd dg lo te t od) 109 (fun mv hmv => ?_) (fun hJ109 => ?_)
      · skip
        refine r_lstore dX8_spreadBy_109 (by decide) rfl ?_
        refine r_iconst (v := 0) dX8_spreadBy_111 (by decide) ?_
        refine r_istore dX8_spreadBy_112 (by decide) rfl ?_
        exact r_lv (lvSc rfl (lvSc rfl (lvSc rfl (lvSc rfl (lvSc rfl lvS0))))) (lp_spr g x M hs σ w V pd dg lo ps te D t htN hte od hod fr to mv j l hj hl ej2 el2 (by rw [sprF, cj, cl, hmv]) 9 0 0 M (by omega) (by omega) rfl (Fr.rf _ _ _) (fun q hq => by omega) (fun q h3 h4 => hod q h4))
      · skip
        refine r_iload dX8_spreadBy_83 rfl ?_
        refine r_if_eq 108 dX8_spreadBy_85 (by decide) (fun c85 => ?_) (fun c85 => ?_)
        · skip
          refine r_lconst (v := 0) dX8_spreadBy_108 (by decide) ?_
          exact hJ109 _ (by rw [mv_01 (by rw [cj]; exact htk)]; simp [c85, cj, hte, hod j hj])
        · skip
          refine r_aload_n dX8_spreadBy_88 rfl ?_
          refine r_getR flX8_49_8 rfl (hs.lt (by decide)) (hs.T 0 rfl) (hs.R 0 8 rfl) dX8_spreadBy_89 ?_
          refine r_iload_n dX8_spreadBy_92 rfl ?_
          refine r_lal (hs.T 32 rfl) (hs.lt (by decide)) (ix_of ej2 hj (by decide)) dX8_spreadBy_93 ?_
          refine r_aload_n dX8_spreadBy_94 rfl ?_
          refine r_getR flX8_46_8 rfl (hs.lt (by decide)) (hs.T 0 rfl) (hs.R 0 7 rfl) dX8_spreadBy_95 ?_
          refine r_getR flX8_130_1 rfl (hs.lt (by decide)) (hs.T 25 rfl) (hs.R 25 5 rfl) dX8_spreadBy_98 ?_
          refine r_iload_n dX8_spreadBy_101 rfl ?_
          refine r_ial (hs.T 31 rfl) (hs.lt (by decide)) (ix_nI ht8 (by decide)) dX8_spreadBy_102 ?_
          refine r_i2l dX8_spreadBy_103 ?_
          refine r_lmul dX8_spreadBy_104 ?_
          refine r_goto 109 dX8_spreadBy_105 (by decide) ?_
          exact hJ109 _ (by rw [mv_01 (by rw [cj]; exact htk)]; simp [c85, cj, hte, hod j hj])
    · skip
      refine r_aload_n dX8_spreadBy_44 rfl ?_
      refine r_v_mostTaken rfl ha ht ⟨Nat.le_of_ble_eq_true rfl, Nat.le_of_ble_eq_true rfl⟩ (Nat.le_of_ble_eq_true rfl) ⟨Nat.le_of_ble_eq_true rfl, Nat.le_of_ble_eq_true rfl⟩ dX8_spreadBy_45 ?_
      refine r_if_le 80 dX8_spreadBy_48 (by decide) (fun c48 => ?_) (fun c48 => ?_)
      · skip
        rw [most0, ek] at c48
        have hfin : ((0 : Int32) = 1 ∧ takB (zk σ t) (dg j) (lo j)) ∨ ((0 : Int32) = 0 ∧ ¬ takB (zk σ t) (dg j) (lo j)) := Or.inr ⟨rfl, fun q => q.1 c48⟩
        refine r_iconst (v := 0) dX8_spreadBy_80 (by decide) ?_
        exact hJ81 _ hfin
      · skip
        rw [most0, ek] at c48
        refine r_aload_n dX8_spreadBy_51 rfl ?_
        refine r_aload_n dX8_spreadBy_52 rfl ?_
        refine r_getR flX8_46_8 rfl (hs.lt (by decide)) (hs.T 0 rfl) (hs.R 0 7 rfl) dX8_spreadBy_53 ?_
        refine r_getR flX8_163_1 rfl (hs.lt (by decide)) (hs.T 25 rfl) (hs.R 25 3 rfl) dX8_spreadBy_56 ?_
        refine r_iload_n dX8_spreadBy_59 rfl ?_
        refine r_zal (hs.T 29 rfl) (hs.lt (by decide)) (ix_of ej2 hj (by decide)) dX8_spreadBy_60 ?_
        refine r_aload_n dX8_spreadBy_61 rfl ?_
        refine r_getR flX8_46_8 rfl (hs.lt (by decide)) (hs.T 0 rfl) (hs.R 0 7 rfl) dX8_spreadBy_62 ?_
        refine r_getR flX8_160_1 rfl (hs.lt (by decide)) (hs.T 25 rfl) (hs.R 25 2 rfl) dX8_spreadBy_65 ?_
        refine r_iload_n dX8_spreadBy_68 rfl ?_
        refine r_ial (hs.T 28 rfl) (hs.lt (by decide)) (ix_of ej2 hj (by decide)) dX8_spreadBy_69 ?_
        refine r_v_isKeptOut rfl ha ht (by rw [show mI M 29 j = dg j from (D.2.2.1 j hj).1]; exact (D.2.2.1 j hj).2) ⟨Nat.le_of_ble_eq_true rfl, Nat.le_of_ble_eq_true rfl⟩ (Nat.le_of_ble_eq_true rfl) ⟨Nat.le_of_ble_eq_true rfl, Nat.le_of_ble_eq_true rfl⟩ dX8_spreadBy_70 (fun r70 h70 => ?_)
        rw [show mI M 29 j = dg j from (D.2.2.1 j hj).1, show mI M 28 j = lo j from D.2.1 j hj, ek] at h70
        refine r_if_ne 80 dX8_spreadBy_73 (by decide) (fun c73 => ?_) (fun c73 => ?_)
        · skip
          have hfin : ((0 : Int32) = 1 ∧ takB (zk σ t) (dg j) (lo j)) ∨ ((0 : Int32) = 0 ∧ ¬ takB (zk σ t) (dg j) (lo j)) := Or.inr ⟨rfl, fun q => q.2 (h70.resolve_right (fun z => c73 z.1)).2⟩
          refine r_iconst (v := 0) dX8_spreadBy_80 (by decide) ?_
          exact hJ81 _ hfin
        · skip
          have hfin : ((1 : Int32) = 1 ∧ takB (zk σ t) (dg j) (lo j)) ∨ ((1 : Int32) = 0 ∧ ¬ takB (zk σ t) (dg j) (lo j)) := Or.inl ⟨rfl, c48, (h70.resolve_left (fun z => absurd (z.1.symm.trans c73) (by decide))).2⟩
          refine r_iconst (v := 1) dX8_spreadBy_76 (by decide) ?_
          refine r_goto 81 dX8_spreadBy_77 (by decide) ?_
          exact hJ81 _ hfin
  · skip
    refine r_aload_n dX8_spreadBy_22 rfl ?_
    refine r_getR flX8_46_8 rfl (hs.lt (by decide)) (hs.T 0 rfl) (hs.R 0 7 rfl) dX8_spreadBy_23 ?_
    refine r_getR flX8_126_1 rfl (hs.lt (by decide)) (hs.T 25 rfl) (hs.R 25 4 rfl) dX8_spreadBy_26 ?_
    refine r_iload_n dX8_spreadBy_29 rfl ?_
    refine r_zal (hs.T 30 rfl) (hs.lt (by decide)) (ix_nI ht8 (by decide)) dX8_spreadBy_30 ?_
    refine r_if_ne 38 dX8_spreadBy_31 (by decide) (fun c31 => ?_) (fun c31 => ?_)
    · skip
      refine r_iconst (v := 0) dX8_spreadBy_38 (by decide) ?_
      exact hJ39 _ (by rw [show mI M 30 t = pd t from (D.2.2.2 t htN).1] at c31; simp [c31])
    · skip
      refine r_iconst (v := 1) dX8_spreadBy_34 (by decide) ?_
      refine r_goto 39 dX8_spreadBy_35 (by decide) ?_
      exact hJ39 _ (by rw [show mI M 30 t = pd t from (D.2.2.2 t htN).1] at c31; simp [c31])
def rmX8_spreadOdds : Room := { frames := 2, cells := 0, slots := 0, locals := 50 }
set_option maxHeartbeats 4000000 in
set_option maxRecDepth 100000 in
theorem lp_oddI (g : Gx) (x : Cx) (M : Mm) (σ : Ab) (δ : Dy) (K : CA σ δ M) (s m : Int32) (j mm : Nat) (hj : j < zS σ) (es : s = nI j) (em : m = nI mm) (hmm : mm ≤ 2) (q : Nat) (v5 : Int32) (hlo : ∀ h, h < 8 → 0 ≤ (chO σ δ (od0 (yp δ j)) q).2 h) (OUT : ∀ M3 : Mm, Fr (cF 25) [32] M M3 → CD 25 M3 σ (yq δ) (yd δ) (chO σ δ (od0 (yp δ j)) (q + 1)).2 (yp δ) → (∀ t, t < zN σ → mI M3 31 t = yt δ t) → (∀ h, h < 8 → mL M3 32 h = (chO σ δ (od0 (yp δ j)) (q + 1)).1 h) → Vj x g yX8_spreadOdds cX8_spreadOdds 7 (Option.some FieldType.long) rmX8_spreadOdds (Qm x g rmX8_spreadOdds.cells rmX8_spreadOdds.slots (pL fun r M' => Fr (cF 25) [32] M M' ∧ r = tenK (mm * zN σ) ∧ ∀ h, h < 8 → mL M' 32 h = (chO σ δ (od0 (yp δ j)) mm).1 h)) 0 0 M3 54 [(0, some (.ref (g.1 + 0))), (1, some (.int s)), (2, some (.int m)), (3, some (.long (tenK ((q + 1) * zN σ)))), (5, some (.int (v5 + Int32.ofInt 1)))] []) : ∀ (n : Nat) (i : Nat) (v : Int32) (b : Int64) (M1 : Mm), i ≤ zN σ → zN σ - i < n → v = nI i → Fr (cF 25) [32] M M1 → CD 25 M1 σ (yq δ) (yd δ) (chO σ δ (od0 (yp δ j)) q).2 (yp δ) → (∀ t, t < zN σ → mI M1 31 t = yt δ t) → (∀ h, h < 8 → mL M1 32 h = (spI σ (yq δ) (yd δ) (chO σ δ (od0 (yp δ j)) q).2 (yt δ) (chO σ δ (od0 (yp δ j)) q).1 i) h) → b = tenK (q * zN σ + i) → Vj x g yX8_spreadOdds cX8_spreadOdds 7 (Option.some FieldType.long) rmX8_spreadOdds (Qm x g rmX8_spreadOdds.cells rmX8_spreadOdds.slots (pL fun r M' => Fr (cF 25) [32] M M' ∧ r = tenK (mm * zN σ) ∧ ∀ h, h < 8 → mL M' 32 h = (chO σ δ (od0 (yp δ j)) mm).1 h)) 0 0 M1 63 [(0, some (.ref (g.1 + 0))), (1, some (.int s)), (2, some (.int m)), (3, some (.long b)), (5, some (.int v5)), (6, some (.int v))] [] := by
  intro n
  induction n with
  | zero => intro i v b M1 hiN hn hv hF D1 hte hod hb; omega
  | succ n ih =>
    intro i v b M1 hiN hn hv hF D1 hte hod hb
    obtain ⟨hs, w, dw, V, D, D2, D3, D4, D5, D6⟩ := id K
    have hs1 := hs.fr hF
    have V1 := V.fr hs w hF (by intro a ha; rw [cF_in] at ha; omega)
    subst hv
    have hv : nI i = nI i := rfl
    refine r_iload dX8_spreadOdds_63 rfl ?_
    refine r_aload_n dX8_spreadOdds_65 rfl ?_
    refine r_getI flX8_62_8 rfl (hs1.lt (by decide)) (hs1.T 0 rfl) dX8_spreadOdds_66 ?_
    refine r_icmp_ge 90 dX8_spreadOdds_69 (by decide) (fun c69 => ?_) (fun c69 => ?_)
    · skip
      have e0 := lp_ge (n := zN σ) hv V1.1 c69 hiN (by have := w.1; omega)
      subst e0
      refine r_aload_n dX8_spreadOdds_90 rfl ?_
      refine r_getR flX8_46_8 rfl (hs1.lt (by decide)) (hs1.T 0 rfl) (hs1.R 0 7 rfl) dX8_spreadOdds_91 ?_
      refine r_cV0v cvX8_241 (kX1_lapseLocks g M1 25 (Or.inr (Or.inr rfl)) hs1 (chO σ δ (od0 (yp δ j)) q).2 D1.2.1 hlo) (hs1.lt (by decide)) (hs1.T 25 rfl) ⟨Nat.le_of_ble_eq_true rfl, Nat.le_of_ble_eq_true rfl⟩ (Nat.le_of_ble_eq_true rfl) ⟨Nat.le_of_ble_eq_true rfl, Nat.le_of_ble_eq_true rfl⟩ dX8_spreadOdds_94 (fun M94 h94 => ?_)
      obtain ⟨hF2, e2⟩ := h94
      refine r_iinc dX8_spreadOdds_97 rfl rfl rfl ?_
      refine r_goto 54 dX8_spreadOdds_100 (by decide) ?_
      rw [show b = tenK ((q + 1) * zN σ) by rw [hb, Nat.succ_mul]]
      exact r_lv (lvSc rfl (lvSc rfl (lvSc rfl (lvSc rfl (lvSc rfl lvS0))))) (OUT _ (hF.tr (hF2.mono (by intro a ha; simp at ha; rw [cF_in]; omega) (by simp))) (D1.fr3 hF2 e2) (fun t ht => by rw [hF2.2.1 31 (by decide)]; exact hte t ht) (fun h hh => by rw [hF2.2.2 32 (by simp)]; exact hod h hh))
    · skip
      have hi : i < zN σ := lp_lt (n := zN σ) hv V1.1 c69 hiN (by have := w.1; omega)
      refine r_aload_n dX8_spreadOdds_72 rfl ?_
      refine r_iload dX8_spreadOdds_73 rfl ?_
      refine r_cV1v cvX8_312 (kX8_spreadBy g M1 hs1 σ w V1 (yq δ) (yd δ) (chO σ δ (od0 (yp δ j)) q).2 (yp δ) (yt δ) D1 i hi (hte i hi) (spI σ (yq δ) (yd δ) (chO σ δ (od0 (yp δ j)) q).2 (yt δ) (chO σ δ (od0 (yp δ j)) q).1 i) hod) (hs1.lt (by decide)) (hs1.T 0 rfl) ⟨Nat.le_of_ble_eq_true rfl, Nat.le_of_ble_eq_true rfl⟩ (Nat.le_of_ble_eq_true rfl) ⟨Nat.le_of_ble_eq_true rfl, Nat.le_of_ble_eq_true rfl⟩ dX8_spreadOdds_75 (fun M75 h75 => ?_)
      obtain ⟨hF2, e2⟩ := h75
      refine r_lload_n dX8_spreadOdds_78 rfl ?_
      refine r_ldc2_w (v := 10) dX8_spreadOdds_79 tw502 ?_
      refine r_lmul dX8_spreadOdds_82 ?_
      refine r_lstore_n dX8_spreadOdds_83 (by decide) rfl ?_
      refine r_iinc dX8_spreadOdds_84 rfl rfl rfl ?_
      refine r_goto 63 dX8_spreadOdds_87 (by decide) ?_
      exact r_lv (lvSc rfl (lvSc rfl (lvSc rfl (lvSc rfl (lvSc rfl (lvSc rfl lvS0)))))) (ih (i + 1) _ _ _ (by omega) (by omega) (nI_inc rfl) (hF.tr (hF2.mono (by simp) (by simp))) ⟨fun s hs => by rw [hF2.2.1 _ (by simp)]; exact D1.1 s hs, fun s hs => by rw [hF2.2.1 _ (by simp)]; exact D1.2.1 s hs, fun s hs => by rw [hF2.2.1 _ (by simp)]; exact D1.2.2.1 s hs, fun s hs => by rw [hF2.2.1 _ (by simp)]; exact D1.2.2.2 s hs⟩ (fun t ht => by rw [hF2.2.1 _ (by simp)]; exact hte t ht) e2 (by rw [hb]; rfl))
set_option maxHeartbeats 4000000 in
set_option maxRecDepth 100000 in
theorem lp_oddO (g : Gx) (x : Cx) (M : Mm) (σ : Ab) (δ : Dy) (K : CA σ δ M) (s m : Int32) (j mm : Nat) (hj : j < zS σ) (es : s = nI j) (em : m = nI mm) (hmm : mm ≤ 2) : ∀ (n : Nat) (i : Nat) (v : Int32) (b : Int64) (M1 : Mm), i ≤ mm → mm - i < n → v = nI i → Fr (cF 25) [32] M M1 → CD 25 M1 σ (yq δ) (yd δ) (chO σ δ (od0 (yp δ j)) i).2 (yp δ) → (∀ h, h < 8 → 0 ≤ (chO σ δ (od0 (yp δ j)) i).2 h) → (∀ t, t < zN σ → mI M1 31 t = yt δ t) → (∀ h, h < 8 → mL M1 32 h = (chO σ δ (od0 (yp δ j)) i).1 h) → b = tenK (i * zN σ) → Vj x g yX8_spreadOdds cX8_spreadOdds 7 (Option.some FieldType.long) rmX8_spreadOdds (Qm x g rmX8_spreadOdds.cells rmX8_spreadOdds.slots (pL fun r M' => Fr (cF 25) [32] M M' ∧ r = tenK (mm * zN σ) ∧ ∀ h, h < 8 → mL M' 32 h = (chO σ δ (od0 (yp δ j)) mm).1 h)) 0 0 M1 54 [(0, some (.ref (g.1 + 0))), (1, some (.int s)), (2, some (.int m)), (3, some (.long b)), (5, some (.int v))] [] := by
  intro n
  induction n with
  | zero => intro i v b M1 him hn hv hF D1 hlo hte hod hb; omega
  | succ n ih =>
    intro i v b M1 him hn hv hF D1 hlo hte hod hb
    obtain ⟨hs, w, dw, V, D, D2, D3, D4, D5, D6⟩ := id K
    have hs1 := hs.fr hF
    have V1 := V.fr hs w hF (by intro a ha; rw [cF_in] at ha; omega)
    refine r_iload dX8_spreadOdds_54 rfl ?_
    refine r_iload_n dX8_spreadOdds_56 rfl ?_
    refine r_icmp_ge 103 dX8_spreadOdds_57 (by decide) (fun c57 => ?_) (fun c57 => ?_)
    · skip
      have e0 := lp_ge (n := mm) hv em c57 him (by omega)
      subst e0
      refine r_lload_n dX8_spreadOdds_103 rfl ?_
      exact r_lret dX8_spreadOdds_104 ⟨_, rfl, hF, hb, hod⟩
    · skip
      have hi : i < mm := lp_lt (n := mm) hv em c57 him (by omega)
      refine r_iconst (v := 0) dX8_spreadOdds_60 (by decide) ?_
      refine r_istore dX8_spreadOdds_61 (by decide) rfl ?_
      exact r_lv (lvSc rfl (lvSc rfl (lvSc rfl (lvSc rfl (lvSc rfl (lvSc rfl lvS0)))))) (lp_oddI g x M σ δ K s m j mm hj es em hmm i v hlo (fun M3 f3 d3 t3 o3 => ih (i + 1) _ _ M3 (by omega) (by omega) (nI_inc hv) f3 d3 (lapF_0 hlo) t3 o3 rfl) (zN σ + 1) 0 0 b M1 (by omega) (by omega) rfl hF D1 hte hod hb)
set_option maxHeartbeats 4000000 in
set_option maxRecDepth 100000 in
theorem lp_odd0 (g : Gx) (x : Cx) (M : Mm) (σ : Ab) (δ : Dy) (K : CA σ δ M) (s m : Int32) (j mm : Nat) (hj : j < zS σ) (es : s = nI j) (em : m = nI mm) (hmm : mm ≤ 2) : ∀ (n : Nat) (i : Nat) (v : Int32) (M1 : Mm), i ≤ 8 → 8 - i < n → v = nI i → Fr (cF 25) [32] M M1 → CD 25 M1 σ (yq δ) (yd δ) (yl δ) (yp δ) → (∀ t, t < zN σ → mI M1 31 t = yt δ t) → (∀ h, h < i → mL M1 32 h = (od0 (yp δ j)) h) → Vj x g yX8_spreadOdds cX8_spreadOdds 7 (Option.some FieldType.long) rmX8_spreadOdds (Qm x g rmX8_spreadOdds.cells rmX8_spreadOdds.slots (pL fun r M' => Fr (cF 25) [32] M M' ∧ r = tenK (mm * zN σ) ∧ ∀ h, h < 8 → mL M' 32 h = (chO σ δ (od0 (yp δ j)) mm).1 h)) 0 0 M1 13 [(0, some (.ref (g.1 + 0))), (1, some (.int s)), (2, some (.int m)), (3, some (.int v))] [] := by
  intro n
  induction n with
  | zero => intro i v M1 hi8 hn hv hF D1 hte h1; omega
  | succ n ih =>
    intro i v M1 hi8 hn hv hF D1 hte h1
    obtain ⟨hs, w, dw, V, D, D2, D3, D4, D5, D6⟩ := id K
    have hs1 := hs.fr hF
    have hj8 : j < 8 := Nat.lt_of_lt_of_le hj w.2.1
    refine r_iload_n dX8_spreadOdds_13 rfl ?_
    refine r_bipush (v := 8) dX8_spreadOdds_14 (by decide) ?_
    refine r_icmp_ge 49 dX8_spreadOdds_16 (by decide) (fun c16 => ?_) (fun c16 => ?_)
    · skip
      have e0 := lp_ge (n := 8) hv rfl c16 hi8 (by decide)
      subst e0
      refine r_lconst (v := 1) dX8_spreadOdds_49 (by decide) ?_
      refine r_lstore_n dX8_spreadOdds_50 (by decide) rfl ?_
      refine r_iconst (v := 0) dX8_spreadOdds_51 (by decide) ?_
      refine r_istore dX8_spreadOdds_52 (by decide) rfl ?_
      exact r_lv (lvSc rfl (lvSc rfl (lvSc rfl (lvSc rfl (lvSc rfl lvS0))))) (lp_oddO g x M σ δ K s m j mm hj es em hmm (mm + 1) 0 0 1 M1 (by omega) (by omega) rfl hF D1 dw.1 hte h1 (by rw [Nat.zero_mul]; rfl))
    · skip
      have hi : i < 8 := lp_lt (n := 8) hv rfl c16 hi8 (by decide)
      refine r_aload_n dX8_spreadOdds_19 rfl ?_
      refine r_getR flX8_49_8 rfl (hs1.lt (by decide)) (hs1.T 0 rfl) (hs1.R 0 8 rfl) dX8_spreadOdds_20 ?_
      refine r_iload_n dX8_spreadOdds_23 rfl ?_
      refine r_diaL (P := fun u => u = od0 (yp δ j) i) 42 (fun u hu => ?_) (fun hJ42 => ?_)
      · skip
        refine r_las (hs1.T 32 rfl) (hs1.lt (by decide)) (ix_of hv hi (by decide)) dX8_spreadOdds_42 ?_
        refine r_iinc dX8_spreadOdds_43 rfl rfl rfl ?_
        refine r_goto 13 dX8_spreadOdds_46 (by decide) ?_
        exact r_lv (lvSc rfl (lvSc rfl (lvSc rfl (lvSc rfl lvS0)))) (ih (i + 1) _ _ (by omega) (by omega) (nI_inc hv) (hF.sL (by simp)) D1 hte (fun q hq => by
          rw [mL_sL, va_up_if]
          by_cases e : q = i
          · rw [if_pos e, e, hu]
          · rw [if_neg e]; exact h1 q (by omega)))
      · skip
        refine r_iload_n dX8_spreadOdds_24 rfl ?_
        refine r_aload_n dX8_spreadOdds_25 rfl ?_
        refine r_getR flX8_39_8 rfl (hs1.lt (by decide)) (hs1.T 0 rfl) (hs1.R 0 5 rfl) dX8_spreadOdds_26 ?_
        refine r_getR flX8_166_1 rfl (hs1.lt (by decide)) (hs1.T 11 rfl) (hs1.R 11 0 rfl) dX8_spreadOdds_29 ?_
        refine r_iload_n dX8_spreadOdds_32 rfl ?_
        refine r_ial (hs1.T 12 rfl) (hs1.lt (by decide)) (ix_of es hj8 (by decide)) dX8_spreadOdds_33 ?_
        refine r_icmp_ne 41 dX8_spreadOdds_34 (by decide) (fun c34 => ?_) (fun c34 => ?_)
        · skip
          refine r_lconst (v := 0) dX8_spreadOdds_41 (by decide) ?_
          exact hJ42 _ (by rw [show mI M1 12 j = yp δ j from (congrFun (hF.2.1 12 (by rw [cF_in]; omega)) j).trans (D.1 j hj), hv] at c34; simp [od0, c34])
        · skip
          refine r_lconst (v := 1) dX8_spreadOdds_37 (by decide) ?_
          refine r_goto 42 dX8_spreadOdds_38 (by decide) ?_
          exact hJ42 _ (by rw [show mI M1 12 j = yp δ j from (congrFun (hF.2.1 12 (by rw [cF_in]; omega)) j).trans (D.1 j hj), hv] at c34; simp [od0, c34])
set_option maxHeartbeats 4000000 in
set_option maxRecDepth 100000 in
theorem kX8_spreadOdds (g : Gx) (M : Mm) (σ : Ab) (δ : Dy) (K : CA σ δ M) (s m : Int32) (j mm : Nat) (hj : j < zS σ) (es : s = nI j) (em : m = nI mm) (hmm : mm ≤ 2) : Ct g yX8_spreadOdds cX8_spreadOdds 7 (Option.some FieldType.long) rmX8_spreadOdds [.ref (g.1 + 0), .int s, .int m] M (pL fun r M' => Fr (cF 25) [32] M M' ∧ r = tenK (mm * zN σ) ∧ ∀ h, h < 8 → mL M' 32 h = (chO σ δ (od0 (yp δ j)) mm).1 h) := by
  obtain ⟨hs, w, dw, V, D, D2, D3, D4, D5, D6⟩ := id K
  refine Ct.of rfl (Nat.le_of_ble_eq_true rfl) (fun x => ?_)
  refine r_aload_n dX8_spreadOdds_0 rfl ?_
  refine r_getR flX8_46_8 rfl (hs.lt (by decide)) (hs.T 0 rfl) (hs.R 0 7 rfl) dX8_spreadOdds_1 ?_
  refine r_aload_n dX8_spreadOdds_4 rfl ?_
  refine r_getR flX8_39_8 rfl (hs.lt (by decide)) (hs.T 0 rfl) (hs.R 0 5 rfl) dX8_spreadOdds_5 ?_
  refine r_cV1v cvX8_188 (kX1_takeOver g M 25 11 (Or.inr (Or.inr rfl)) (Or.inl rfl) (by decide) hs D6) (hs.lt (by decide)) (hs.T 25 rfl) ⟨Nat.le_of_ble_eq_true rfl, Nat.le_of_ble_eq_true rfl⟩ (Nat.le_of_ble_eq_true rfl) ⟨Nat.le_of_ble_eq_true rfl, Nat.le_of_ble_eq_true rfl⟩ dX8_spreadOdds_8 (fun M8 h8 => ?_)
  obtain ⟨hF, hcp, h6, h7⟩ := h8
  have CC2 := CC.copy w K.2.2.2.2 hcp h6 h7
  refine r_iconst (v := 0) dX8_spreadOdds_11 (by decide) ?_
  refine r_istore_n dX8_spreadOdds_12 (by decide) rfl ?_
  exact r_lv (lvSc rfl (lvSc rfl (lvSc rfl (lvSc rfl lvS0)))) (lp_odd0 g x M σ δ K s m j mm hj es em hmm 9 0 0 _ (by omega) (by omega) rfl (hF.mono (by intro a ha; exact ha) (by simp)) CC2.1 CC2.2.2.1 (fun h hh => by omega))
def rmX8_chance : Room := { frames := 3, cells := 0, slots := 0, locals := 76 }
set_option maxHeartbeats 4000000 in
set_option maxRecDepth 100000 in
theorem kX8_chance (g : Gx) (M : Mm) (σ : Ab) (δ : Dy) (K : CA σ δ M) (s m t p : Int32) : Ct g yX8_chance cX8_chance 11 (Option.some FieldType.long) rmX8_chance [.ref (g.1 + 0), .int s, .int m, .int t, .int p] M (pL fun r M' => Fr (cF 25) [32] M M' ∧ r = chaR σ δ s m t p) := by
  obtain ⟨hs, w, dw, V, D, D2, D3, D4, D5, D6⟩ := id K
  refine Ct.of rfl (Nat.le_of_ble_eq_true rfl) (fun x => ?_)
  refine r_aload_n dX8_chance_0 rfl ?_
  refine r_iload_n dX8_chance_1 rfl ?_
  refine r_cV1i cvX8_172 (kX8_isSpoon g M hs s) (hs.lt (by decide)) (hs.T 0 rfl) ⟨Nat.le_of_ble_eq_true rfl, Nat.le_of_ble_eq_true rfl⟩ (Nat.le_of_ble_eq_true rfl) ⟨Nat.le_of_ble_eq_true rfl, Nat.le_of_ble_eq_true rfl⟩ dX8_chance_2 (fun r2 M2 h2 => ?_)
  obtain ⟨e2, h2⟩ := h2
  replace e2 := e2.symm
  subst e2
  rw [V.2.1] at h2
  refine r_if_eq 15 dX8_chance_5 (by decide) (fun c5 => ?_) (fun c5 => ?_)
  · skip
    refine r_ldc2_w (v := -101) dX8_chance_15 tw491 ?_
    exact r_lret dX8_chance_18 ⟨_, rfl, Fr.rf _ _ _, by rw [chaR, if_neg (by grind)]⟩
  · skip
    refine r_iload_n dX8_chance_8 rfl ?_
    refine r_cS1i csX8_157 (kX8_isHouse g M t) hs.pos ⟨Nat.le_of_ble_eq_true rfl, Nat.le_of_ble_eq_true rfl⟩ (Nat.le_of_ble_eq_true rfl) ⟨Nat.le_of_ble_eq_true rfl, Nat.le_of_ble_eq_true rfl⟩ dX8_chance_9 (fun r9 M9 h9 => ?_)
    obtain ⟨e9, h9⟩ := h9
    replace e9 := e9.symm
    subst e9
    refine r_if_ne 19 dX8_chance_12 (by decide) (fun c12 => ?_) (fun c12 => ?_)
    · skip
      refine r_iload_n dX8_chance_19 rfl ?_
      refine r_iconst (v := 1) dX8_chance_20 (by decide) ?_
      refine r_icmp_lt 40 dX8_chance_21 (by decide) (fun c21 => ?_) (fun c21 => ?_)
      · skip
        refine r_ldc2_w (v := -102) dX8_chance_40 tw492 ?_
        exact r_lret dX8_chance_43 ⟨_, rfl, Fr.rf _ _ _, by rw [chaR, if_pos (by grind), if_neg (by grind)]⟩
      · skip
        refine r_iload_n dX8_chance_24 rfl ?_
        refine r_iconst (v := 2) dX8_chance_25 (by decide) ?_
        refine r_icmp_gt 40 dX8_chance_26 (by decide) (fun c26 => ?_) (fun c26 => ?_)
        · skip
          refine r_ldc2_w (v := -102) dX8_chance_40 tw492 ?_
          exact r_lret dX8_chance_43 ⟨_, rfl, Fr.rf _ _ _, by rw [chaR, if_pos (by grind), if_neg (by grind)]⟩
        · skip
          refine r_iload dX8_chance_29 rfl ?_
          refine r_if_lt 40 dX8_chance_31 (by decide) (fun c31 => ?_) (fun c31 => ?_)
          · skip
            refine r_ldc2_w (v := -102) dX8_chance_40 tw492 ?_
            exact r_lret dX8_chance_43 ⟨_, rfl, Fr.rf _ _ _, by rw [chaR, if_pos (by grind), if_neg (by grind)]⟩
          · skip
            refine r_iload dX8_chance_34 rfl ?_
            refine r_iconst (v := 1) dX8_chance_36 (by decide) ?_
            refine r_icmp_le 44 dX8_chance_37 (by decide) (fun c37 => ?_) (fun c37 => ?_)
            · skip
              refine r_aload_n dX8_chance_44 rfl ?_
              refine r_getI flX8_62_8 rfl (hs.lt (by decide)) (hs.T 0 rfl) dX8_chance_45 ?_
              refine r_if_ne 55 dX8_chance_48 (by decide) (fun c48 => ?_) (fun c48 => ?_)
              · skip
                rw [V.1, nI_zero w.1] at c48
                obtain ⟨j, hj, ej⟩ := ix_ex (by have := w.2.1; omega) (one_of h2 c5).1 (one_of h2 c5).2
                obtain ⟨l, hl, el⟩ := ix_ex (n := 8) (by decide) (one_of h9 c12).1 (one_of h9 c12).2
                obtain ⟨mm, hmm, em⟩ := nI_rng (v := m) (n := 2) (by grind) (by show m ≤ 2; grind) (by decide)
                have e1 : s.toNatClampNeg = j := by rw [ej]; exact nI_clamp (by have := w.2.1; omega)
                have e2 : t.toNatClampNeg = l := by rw [el]; exact nI_clamp (by omega)
                have e3 : m.toNatClampNeg = mm := by rw [em]; exact nI_clamp (by omega)
                have hten := tenK_ne (mm * zN σ) (by have := w.1; have := Nat.mul_le_mul hmm w.1; omega)
                refine r_aload_n dX8_chance_55 rfl ?_
                refine r_iload_n dX8_chance_56 rfl ?_
                refine r_iload_n dX8_chance_57 rfl ?_
                refine r_cV2l cvX8_198 (kX8_spreadOdds g M σ δ K s m j mm hj ej em hmm) (hs.lt (by decide)) (hs.T 0 rfl) ⟨Nat.le_of_ble_eq_true rfl, Nat.le_of_ble_eq_true rfl⟩ (Nat.le_of_ble_eq_true rfl) ⟨Nat.le_of_ble_eq_true rfl, Nat.le_of_ble_eq_true rfl⟩ dX8_chance_58 (fun r58 M58 h58 => ?_)
                obtain ⟨hF, h58, hod⟩ := h58
                refine r_lstore dX8_chance_61 (by decide) rfl ?_
                refine r_aload_n dX8_chance_63 rfl ?_
                refine r_getR flX8_49_8 rfl ((hs.fr hF).lt (by decide)) ((hs.fr hF).T 0 rfl) ((hs.fr hF).R 0 8 rfl) dX8_chance_64 ?_
                refine r_iload_n dX8_chance_67 rfl ?_
                refine r_lal ((hs.fr hF).T 32 rfl) ((hs.fr hF).lt (by decide)) (ix_of el hl (by decide)) dX8_chance_68 ?_
                refine r_lstore dX8_chance_69 (by decide) rfl ?_
                refine r_lload dX8_chance_71 rfl ?_
                refine r_lload dX8_chance_73 rfl ?_
                refine r_cS2l csX8_202 (kX8_greatestDivisor g M58 r58 (mL M58 32 l)) (hs.fr hF).pos ⟨Nat.le_of_ble_eq_true rfl, Nat.le_of_ble_eq_true rfl⟩ (Nat.le_of_ble_eq_true rfl) ⟨Nat.le_of_ble_eq_true rfl, Nat.le_of_ble_eq_true rfl⟩ dX8_chance_75 (fun r75 M75 h75 => ?_)
                obtain ⟨e75, h75⟩ := h75
                replace e75 := e75.symm
                subst e75
                have hne : ¬ r75 = 0 := by rw [h75, h58]; exact euP_ne 200 _ _ hten
                refine r_lstore dX8_chance_78 (by decide) rfl ?_
                refine r_lload dX8_chance_80 rfl ?_
                refine r_lconst (v := 0) dX8_chance_82 (by decide) ?_
                refine r_lcmp dX8_chance_83 ?_
                refine r_if_ne 91 dX8_chance_84 (by decide) (fun c84 => ?_) (fun c84 => ?_)
                · skip
                  refine r_iload dX8_chance_91 rfl ?_
                  refine r_if_ne 101 dX8_chance_93 (by decide) (fun c93 => ?_) (fun c93 => ?_)
                  · skip
                    refine r_lload dX8_chance_101 rfl ?_
                    refine r_lload dX8_chance_103 rfl ?_
                    refine r_ldiv dX8_chance_105 hne ?_
                    exact r_lret dX8_chance_106 ⟨_, rfl, hF, by rw [chaR, if_pos (by grind), if_pos (by grind), if_neg c48, e1, e2, e3, ← hod l hl, ← h58, ← h75, if_neg c93]⟩
                  · skip
                    refine r_lload dX8_chance_96 rfl ?_
                    refine r_goto 103 dX8_chance_98 (by decide) ?_
                    refine r_lload dX8_chance_103 rfl ?_
                    refine r_ldiv dX8_chance_105 hne ?_
                    exact r_lret dX8_chance_106 ⟨_, rfl, hF, by rw [chaR, if_pos (by grind), if_pos (by grind), if_neg c48, e1, e2, e3, ← hod l hl, ← h58, ← h75, if_pos c93]⟩
                · skip
                  rw [lgc0] at c84
                  exact absurd c84 hne
              · skip
                rw [V.1, nI_zero w.1] at c48
                refine r_ldc2_w (v := -103) dX8_chance_51 tw493 ?_
                exact r_lret dX8_chance_54 ⟨_, rfl, Fr.rf _ _ _, by rw [chaR, if_pos (by grind), if_pos (by grind), if_pos c48]⟩
            · skip
              refine r_ldc2_w (v := -102) dX8_chance_40 tw492 ?_
              exact r_lret dX8_chance_43 ⟨_, rfl, Fr.rf _ _ _, by rw [chaR, if_pos (by grind), if_neg (by grind)]⟩
    · skip
      refine r_ldc2_w (v := -101) dX8_chance_15 tw491 ?_
      exact r_lret dX8_chance_18 ⟨_, rfl, Fr.rf _ _ _, by rw [chaR, if_neg (by grind)]⟩
