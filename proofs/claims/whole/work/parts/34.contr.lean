section ThSt
variable {x : Cx} {g : Gx} {y : MethodName} {cc : ByteArray} {nL : Nat} {ret : Option FieldType} {R : Room} {Q : State → Prop} {k sl : Nat} {M : Mm} {pc : Nat} {lv : Lv} {rest : List Value}
theorem r_aasTh {a n j v : Nat} {i : Int32} (hT : mT M a = .inr (3, n)) (ha : a < mN M) (hv : v < mN M) (ht : isTh (mT M v)) (hi : ixOK i j n) (d : decode cc pc = .ok (.aastore, 1)) (kk : Vj x g y cc nL ret R Q k sl (sR M a j (some v)) (pc + 1) lv rest) : Vj x g y cc nL ret R Q k sl M pc lv (.ref (g.1 + v) :: .int i :: .ref (g.1 + a) :: rest) := by
  rcases ht with h | h | h | h | h
  · exact r_aas (r := (RX7, TX7, 3)) hT ha hv h rfl (Or.inl rfl) hi d kk
  · exact r_aas (r := (RX6, TX6, 3)) hT ha hv h rfl (Or.inr (by decide)) hi d kk
  · exact r_aas (r := (RX0, TX0, 3)) hT ha hv h rfl (Or.inr (by decide)) hi d kk
  · exact r_aas (r := (RX2, TX2, 3)) hT ha hv h rfl (Or.inr (by decide)) hi d kk
  · exact r_aas (r := (RX3, TX3, 3)) hT ha hv h rfl (Or.inr (by decide)) hi d kk
end ThSt
theorem con_CA {σ : Ab} {δ : Dy} {M M1 : Mm} {n : Nat} {rw' : Rw} {u : Int32} (K : CA σ δ M) (hw : PW (4, n, rw')) (hn12 : mI M1 0 12 = nI n) (h : Hir M M1 rw' n) (e013 : mI M 0 13 = nI (zS σ)) : CA (conS σ n rw') (conD δ) (sI (sI M1 0 14 u) 1 1 0) := by
  obtain ⟨hs, ⟨w1, w2, w3, w4⟩, ⟨d1, d2, d3, d4⟩, ⟨v1, v2, v3, v4⟩, ⟨⟨a1, a2, a3, a4⟩, a5, a6, a7, a8, a9⟩⟩ := K
  obtain ⟨g1, g2, g3, g4, g5, g6⟩ := h
  have hn8 : n ≤ 8 := (hw.2.1 rfl).2
  have ent : ∀ j, j < 4 * n → entP j (rw' j) := fun j hj => hw.2.2.2 j (by show j < 4 * n + 0; omega)
  have h59 := hs.1
  have old : ∀ b, b < 59 → b ≠ 0 → b ≠ 16 → b ≠ 17 → b ≠ 1 → mI (sI (sI M1 0 14 u) 1 1 0) b = mI M b := fun b hb q0 q16 q17 q1 => by
    rw [mI_sI_ne q1, mI_sI_ne q0]; exact g2.2.2.2.1 b (by omega) (by simp; omega)
  have r0 : ∀ k, k ≠ 14 → mI (sI (sI M1 0 14 u) 1 1 0) 0 k = mI M1 0 k := fun k hk => by rw [mI_sI_ne (by decide), mI_sI, va_up_ne _ _ hk]
  have r16 : mI (sI (sI M1 0 14 u) 1 1 0) 16 = mI M1 16 := by rw [mI_sI_ne (by decide), mI_sI_ne (by decide)]
  have r17 : mI (sI (sI M1 0 14 u) 1 1 0) 17 = mI M1 17 := by rw [mI_sI_ne (by decide), mI_sI_ne (by decide)]
  have cl : ∀ t, t < n → ∃ κ, κ < 5 ∧ rw' (4 * t) = nI κ := fun t ht => (ent (4 * t) (by omega)).1 (by omega)
  refine ⟨g1, ⟨hn8, w2, fun t ht => ?_, w4⟩, ⟨d1, d2, d3, fun t ht => Or.inr rfl⟩, ⟨?_, ?_, fun t ht => ?_, fun s hs2 => ?_⟩, ⟨fun s hs2 => ?_, fun q hq => ?_, fun q hq => ?_, fun t ht => ?_⟩, fun s hs2 => ?_, fun t ht => ?_, ?_, ?_, fun j hj => ?_⟩
  · obtain ⟨κ, k1, k2⟩ := cl t ht
    refine ⟨?_, (ent (4 * t + 1) (by have : t < n := ht; omega)).2.1 (by omega), (ent (4 * t + 2) (by have : t < n := ht; omega)).2.2.1 (by omega), (ent (4 * t + 3) (by have : t < n := ht; omega)).2.2.2 (by omega)⟩
    show (rw' (4 * t)).toNatClampNeg < 5
    rw [k2, nI_clamp (by omega)]; exact k1
  · rw [r0 12 (by decide)]; exact hn12
  · rw [r0 13 (by decide), g6 13 (by decide)]; exact e013
  · have gt := g3 t ht
    have e := g1.2.2.2 t (by have : t < n := ht; omega)
    show kdT M1 t = _ ∧ mI (sI (sI M1 0 14 u) 1 1 0) (thi M1 t) 0 = _ ∧ mI (sI (sI M1 0 14 u) 1 1 0) (thi M1 t) 1 = _ ∧ mI (sI (sI M1 0 14 u) 1 1 0) (thi M1 t) 2 = _
    rw [mI_sI_ne (by omega), mI_sI_ne (by omega), gt.1]
    exact gt.2
  · rw [old 9 (by decide) (by decide) (by decide) (by decide) (by decide), old 10 (by decide) (by decide) (by decide) (by decide) (by decide)]; exact v4 s hs2
  · rw [old _ (by decide) (by decide) (by decide) (by decide) (by decide)]; exact a1 s hs2
  · rw [old _ (by decide) (by decide) (by decide) (by decide) (by decide)]; exact a2 q hq
  · rw [old _ (by decide) (by decide) (by decide) (by decide) (by decide)]; exact a3 q hq
  · show mI (sI (sI M1 0 14 u) 1 1 0) 16 t = 1 ∧ ((1 : Int32) = 0 ∨ (1 : Int32) = 1)
    rw [r16]; exact ⟨(g4 t ht).1, Or.inr rfl⟩
  · rw [old _ (by decide) (by decide) (by decide) (by decide) (by decide)]; exact a5 s hs2
  · show mI (sI (sI M1 0 14 u) 1 1 0) 17 t = 10
    rw [r17]; exact (g4 t ht).2
  · rw [old _ (by decide) (by decide) (by decide) (by decide) (by decide)]; exact a7
  · rw [old _ (by decide) (by decide) (by decide) (by decide) (by decide)]; exact a8
  · rw [old _ (by decide) (by decide) (by decide) (by decide) (by decide)]
    refine ⟨(a9 j hj).1, ?_⟩
    show b01 (mI (sI (sI M1 0 14 u) 1 1 0) 16 j)
    rw [r16]
    rcases Nat.lt_or_ge j n with z | z
    · rw [(g4 j z).1]; exact Or.inr rfl
    · rw [g5 j z]; exact (a9 j hj).2
def cnP (pg : Rw) (pn cn : Nat) : Prop := (∃ n rw', psR pg pn = some (4, n, rw') ∧ cn = n) ∨ ((¬ ∃ n rw', psR pg pn = some (4, n, rw')) ∧ cn = 0)
theorem FrA.tr0 {is js : List Nat} {M M1 M2 : Mm} {n : Nat} (h : Fr js [] M M1) (k : FrA is M1 M2 n) : FrA (js ++ is) M M2 n := ⟨by rw [k.1, h.1.1], fun b hb => by rw [k.2.1 b (by rw [h.1.1]; exact hb), h.1.2.1], fun b hb hn => by rw [k.2.2.1 b (by rw [h.1.1]; exact hb) hn, h.1.2.2], fun b hb hn => by rw [k.2.2.2.1 b (by rw [h.1.1]; exact hb) (fun q => hn (List.mem_append_right _ q)), h.2.1 b (fun q => hn (List.mem_append_left _ q))], fun b hb => by rw [k.2.2.2.2 b (by rw [h.1.1]; exact hb), h.2.2 b (by simp)]⟩
theorem FrA.mono {is js : List Nat} {M M1 : Mm} {n : Nat} (h : FrA is M M1 n) (hi : ∀ a ∈ is, a ∈ js) : FrA js M M1 n := ⟨h.1, h.2.1, h.2.2.1, fun b hb hn => h.2.2.2.1 b hb (fun q => hn (hi b q)), h.2.2.2.2⟩
set_option maxHeartbeats 4000000 in
set_option maxRecDepth 100000 in
theorem lp_con (g : Gx) (x : Cx) (M : Mm) (σ : Ab) (δ : Dy) (K : CA σ δ M) (pg : Rw) (pn : Nat) (hpn : mI M 1 1 = nI pn) (h40 : pn ≤ 40) (hpg : ∀ k, k < pn → mI M 2 k = pg k) (hbd : ∀ k, k < pn → 0 ≤ pg k ∧ pg k ≤ 255) (cn : Nat) (n : Nat) (rw' : Rw) (hps : psR pg pn = some (4, n, rw')) (hcn : n = cn) (hw : PW (4, n, rw')) (Mb : Mm) (hFb : Fr [3, 4, 5, 6, 7] [] M Mb) (hpc : PC Mb (4, n, rw')) (Kb : CA σ δ Mb) : ∀ (m : Nat) (i : Nat) (v : Int32) (M1 : Mm), i ≤ n → n - i < m → v = nI i → Hir Mb M1 rw' i → mI M1 0 12 = nI n → Vj x g yX8_contracts cX8_contracts 2 (Option.some FieldType.int) (rmX8_contracts cn) (Qm x g (rmX8_contracts cn).cells (rmX8_contracts cn).slots (pI fun r M' => (∀ n rw', psR pg pn = some (4, n, rw') → r = nI n ∧ CA (conS σ n rw') (conD δ) M' ∧ FrA [0, 1, 3, 4, 5, 6, 7, 16, 17] M M' n ∧ mI M' 1 1 = 0 ∧ mI M' 0 14 = mI M 0 14 + 1 ∧ ∀ k, k ≠ 12 → k ≠ 14 → mI M' 0 k = mI M 0 k) ∧ ((¬ ∃ n rw', psR pg pn = some (4, n, rw')) → r = -103 ∧ Fr [3, 4, 5, 6, 7] [] M M'))) i (3 * i) M1 47 [(0, some (.ref (g.1 + 0))), (1, some (.int v))] [] := by
  intro m
  induction m with
  | zero => intro i v M1 hiN hn hv HR h12; omega
  | succ m ih =>
    intro i v M1 hiN hn hv HR h12
    subst hv
    have hv : nI i = nI i := rfl
    have hn8 : n ≤ 8 := (hw.2.1 rfl).2
    have hsb : St Mb := Kb.1
    have h59 := hsb.1
    have gN := HR.2.1.1
    refine r_iload_n dX8_contracts_47 rfl ?_
    refine r_aload_n dX8_contracts_48 rfl ?_
    refine r_getI flX8_62_8 rfl (HR.1.lt (by decide)) (HR.1.T 0 rfl) dX8_contracts_49 ?_
    refine r_icmp_ge 127 dX8_contracts_52 (by decide) (fun c52 => ?_) (fun c52 => ?_)
    · skip
      have e0 := lp_ge (n := n) hv h12 c52 hiN (by omega)
      subst e0
      subst hcn
      refine r_aload_n dX8_contracts_127 rfl ?_
      refine r_dup dX8_contracts_128 rfl ?_
      refine r_getI flX8_69_8 rfl (HR.1.lt (by decide)) (HR.1.T 0 rfl) dX8_contracts_129 ?_
      refine r_iconst (v := 1) dX8_contracts_132 (by decide) ?_
      refine r_iadd dX8_contracts_133 ?_
      refine r_putI fpX8_69_8 rfl (HR.1.lt (by decide)) (HR.1.T 0 rfl) rfl rfl dX8_contracts_134 ?_
      refine r_aload_n dX8_contracts_137 rfl ?_
      refine r_getR flX8_12_8 rfl (HR.1.lt (by decide)) (HR.1.T 0 rfl) (HR.1.R 0 0 rfl) dX8_contracts_138 ?_
      refine r_iconst (v := 0) dX8_contracts_141 (by decide) ?_
      refine r_putI fpX8_89_4 rfl (HR.1.lt (by decide)) (HR.1.T 1 rfl) rfl rfl dX8_contracts_142 ?_
      refine r_aload_n dX8_contracts_145 rfl ?_
      refine r_getI flX8_62_8 rfl (HR.1.lt (by decide)) (HR.1.T 0 rfl) dX8_contracts_146 ?_
      exact r_iret dX8_contracts_149 ⟨_, rfl, fun n2 rw2 e => by
            rw [hps] at e
            cases e
            refine ⟨h12, con_CA (u := mI M1 0 14 + 1) Kb hw h12 HR Kb.2.2.2.1.2.1, ?_, rfl, ?_, fun k h1 h2 => ?_⟩
            · exact (FrA.tr0 hFb (((HR.2.1.mono (js := [0, 1, 16, 17]) (by simp)).sI' (by simp)).sI' (by simp))).mono (by simp)
            · show mI (sI (sI M1 0 14 (mI M1 0 14 + 1)) 1 1 0) 0 14 = _
              rw [mI_sI_ne (by decide), mI_sI, va_up_self, HR.2.2.2.2.2 14 (by decide), hFb.2.1 0 (by decide)]
            · show mI (sI (sI M1 0 14 (mI M1 0 14 + 1)) 1 1 0) 0 k = _
              rw [mI_sI_ne (by decide), mI_sI, va_up_ne _ _ h2, HR.2.2.2.2.2 k h1, hFb.2.1 0 (by decide)], fun q => absurd ⟨_, _, hps⟩ q⟩
    · skip
      have hi : i < n := lp_lt (n := n) hv h12 c52 hiN (by omega)
      have hi8 : i < 8 := by omega
      obtain ⟨κ, hk5, eκ⟩ := (hw.2.2.2 (4 * i) (by show 4 * i < 4 * n + 0; omega)).1 (by omega)
      have eκ : rw' (4 * i) = nI κ := eκ
      refine r_aload_n dX8_contracts_55 rfl ?_
      refine r_getR flX8_25_8 rfl (HR.1.lt (by decide)) (HR.1.T 0 rfl) (HR.1.R 0 2 rfl) dX8_contracts_56 ?_
      refine r_iload_n dX8_contracts_59 rfl ?_
      refine r_aload_n dX8_contracts_60 rfl ?_
      refine r_getR flX8_19_8 rfl (HR.1.lt (by decide)) (HR.1.T 0 rfl) (HR.1.R 0 1 rfl) dX8_contracts_61 ?_
      refine r_getR flX8_110_5 rfl (HR.1.lt (by decide)) (HR.1.T 3 rfl) (HR.1.R 3 0 rfl) dX8_contracts_64 ?_
      refine r_iload_n dX8_contracts_67 rfl ?_
      refine r_ial (HR.1.T 4 rfl) (HR.1.lt (by decide)) (ix_nI hi8 (by decide)) dX8_contracts_68 ?_
      refine r_aload_n dX8_contracts_69 rfl ?_
      refine r_getR flX8_19_8 rfl (HR.1.lt (by decide)) (HR.1.T 0 rfl) (HR.1.R 0 1 rfl) dX8_contracts_70 ?_
      refine r_getR flX8_113_5 rfl (HR.1.lt (by decide)) (HR.1.T 3 rfl) (HR.1.R 3 1 rfl) dX8_contracts_73 ?_
      refine r_iload_n dX8_contracts_76 rfl ?_
      refine r_ial (HR.1.T 5 rfl) (HR.1.lt (by decide)) (ix_nI hi8 (by decide)) dX8_contracts_77 ?_
      refine r_aload_n dX8_contracts_78 rfl ?_
      refine r_getR flX8_19_8 rfl (HR.1.lt (by decide)) (HR.1.T 0 rfl) (HR.1.R 0 1 rfl) dX8_contracts_79 ?_
      refine r_getR flX8_116_5 rfl (HR.1.lt (by decide)) (HR.1.T 3 rfl) (HR.1.R 3 2 rfl) dX8_contracts_82 ?_
      refine r_iload_n dX8_contracts_85 rfl ?_
      refine r_ial (HR.1.T 6 rfl) (HR.1.lt (by decide)) (ix_nI hi8 (by decide)) dX8_contracts_86 ?_
      refine r_aload_n dX8_contracts_87 rfl ?_
      refine r_getR flX8_19_8 rfl (HR.1.lt (by decide)) (HR.1.T 0 rfl) (HR.1.R 0 1 rfl) dX8_contracts_88 ?_
      refine r_getR flX8_119_5 rfl (HR.1.lt (by decide)) (HR.1.T 3 rfl) (HR.1.R 3 3 rfl) dX8_contracts_91 ?_
      refine r_iload_n dX8_contracts_94 rfl ?_
      refine r_ial (HR.1.T 7 rfl) (HR.1.lt (by decide)) (ix_nI hi8 (by decide)) dX8_contracts_95 ?_
      refine r_cS4r csX8_122 (kX8_hired g M1 (HR.1.pos) κ (mI M1 4 i) hk5 (by rw [(show mI M1 4 i = rw' (4 * i + 0) from (congrFun (HR.2.1.2.2.2.1 4 (by omega) (by decide)) i).trans (hpc.2.2 i 0 (by decide) (by show 4 * i + 0 < 4 * n + 0; omega)))]; exact eκ) (mI M1 5 i) (mI M1 6 i) (mI M1 7 i)) HR.1.pos ⟨Nat.le_of_ble_eq_true rfl, Nat.le_of_ble_eq_true rfl⟩ (Nat.le_of_ble_eq_true rfl) ⟨by show i + 1 ≤ cn; omega, by show 3 * i + 3 ≤ 3 * cn; omega⟩ dX8_contracts_96 (fun r96 M96 h96 => ?_)
      obtain ⟨rfl, hnw⟩ := h96
      have hst := HR.step hsb hi8 hnw (by rw [eκ, nI_clamp (by omega)]) (show mI M1 5 i = rw' (4 * i + 1) from (congrFun (HR.2.1.2.2.2.1 5 (by omega) (by decide)) i).trans (hpc.2.2 i 1 (by decide) (by show 4 * i + 1 < 4 * n + 0; omega))) (show mI M1 6 i = rw' (4 * i + 2) from (congrFun (HR.2.1.2.2.2.1 6 (by omega) (by decide)) i).trans (hpc.2.2 i 2 (by decide) (by show 4 * i + 2 < 4 * n + 0; omega))) (show mI M1 7 i = rw' (4 * i + 3) from (congrFun (HR.2.1.2.2.2.1 7 (by omega) (by decide)) i).trans (hpc.2.2 i 3 (by decide) (by show 4 * i + 3 < 4 * n + 0; omega)))
      refine r_aasTh (show mT M96 8 = .inr (3, 8) by rw [(hnw.2.2.2.2 8 (by omega)).1]; exact HR.1.T 8 rfl) (by rw [hnw.1]; omega) (by rw [hnw.1]; omega) hnw.2.2.1 (ix_nI hi8 (by decide)) dX8_contracts_99 ?_
      refine r_aload_n dX8_contracts_100 rfl ?_
      refine r_getR flX8_39_8 rfl (hst.1.lt (by decide)) (hst.1.T 0 rfl) (hst.1.R 0 5 rfl) dX8_contracts_101 ?_
      refine r_getR flX8_126_1 rfl (hst.1.lt (by decide)) (hst.1.T 11 rfl) (hst.1.R 11 4 rfl) dX8_contracts_104 ?_
      refine r_iload_n dX8_contracts_107 rfl ?_
      refine r_iconst (v := 1) dX8_contracts_108 (by decide) ?_
      refine r_zas (hst.1.T 16 rfl) (hst.1.lt (by decide)) (ix_nI hi8 (by decide)) (Or.inr rfl) dX8_contracts_109 ?_
      refine r_aload_n dX8_contracts_110 rfl ?_
      refine r_getR flX8_39_8 rfl (hst.1.lt (by decide)) (hst.1.T 0 rfl) (hst.1.R 0 5 rfl) dX8_contracts_111 ?_
      refine r_getR flX8_130_1 rfl (hst.1.lt (by decide)) (hst.1.T 11 rfl) (hst.1.R 11 5 rfl) dX8_contracts_114 ?_
      refine r_iload_n dX8_contracts_117 rfl ?_
      refine r_bipush (v := 10) dX8_contracts_118 (by decide) ?_
      refine r_ias (hst.1.T 17 rfl) (hst.1.lt (by decide)) (ix_nI hi8 (by decide)) dX8_contracts_120 ?_
      refine r_iinc dX8_contracts_121 rfl rfl rfl ?_
      refine r_goto 47 dX8_contracts_124 (by decide) ?_
      exact r_lv (lvSc rfl (lvSc rfl lvS0)) (ih (i + 1) _ _ (by omega) (by omega) (nI_inc rfl) hst (by rw [mI_sI_ne (by decide), mI_sI_ne (by decide), mI_sR, (hnw.2.2.2.2 0 (by omega)).2.1]; exact h12))
set_option maxHeartbeats 4000000 in
set_option maxRecDepth 100000 in
theorem kX8_contracts (g : Gx) (M : Mm) (σ : Ab) (δ : Dy) (K : CA σ δ M) (pg : Rw) (pn : Nat) (hpn : mI M 1 1 = nI pn) (h40 : pn ≤ 40) (hpg : ∀ k, k < pn → mI M 2 k = pg k) (hbd : ∀ k, k < pn → 0 ≤ pg k ∧ pg k ≤ 255) (cn : Nat) (hcn : cnP pg pn cn) : Ct g yX8_contracts cX8_contracts 2 (Option.some FieldType.int) (rmX8_contracts cn) [.ref (g.1 + 0)] M (pI fun r M' => (∀ n rw', psR pg pn = some (4, n, rw') → r = nI n ∧ CA (conS σ n rw') (conD δ) M' ∧ FrA [0, 1, 3, 4, 5, 6, 7, 16, 17] M M' n ∧ mI M' 1 1 = 0 ∧ mI M' 0 14 = mI M 0 14 + 1 ∧ ∀ k, k ≠ 12 → k ≠ 14 → mI M' 0 k = mI M 0 k) ∧ ((¬ ∃ n rw', psR pg pn = some (4, n, rw')) → r = -103 ∧ Fr [3, 4, 5, 6, 7] [] M M')) := by
  obtain ⟨hs, w, dw, V, D, D2, D3, D4, D5, D6⟩ := id K
  refine Ct.of rfl (Nat.le_of_ble_eq_true rfl) (fun x => ?_)
  refine r_aload_n dX8_contracts_0 rfl ?_
  refine r_getR flX8_19_8 rfl (hs.lt (by decide)) (hs.T 0 rfl) (hs.R 0 1 rfl) dX8_contracts_1 ?_
  refine r_aload_n dX8_contracts_4 rfl ?_
  refine r_getR flX8_12_8 rfl (hs.lt (by decide)) (hs.T 0 rfl) (hs.R 0 0 rfl) dX8_contracts_5 ?_
  refine r_cV1i cvX8_99 (kX5_readAhead g M hs pg pn hpn h40 hpg hbd) (hs.lt (by decide)) (hs.T 3 rfl) ⟨Nat.le_of_ble_eq_true rfl, Nat.le_of_ble_eq_true rfl⟩ (Nat.le_of_ble_eq_true rfl) ⟨Nat.le_of_ble_eq_true rfl, Nat.le_of_ble_eq_true rfl⟩ dX8_contracts_8 (fun r8 M8 h8 => ?_)
  obtain ⟨hF, k, ek, hfl, hend⟩ := h8
  have hp8 : mI M8 1 1 = nI pn := by rw [hF.2.1 1 (by decide)]; exact hpn
  have hk := hfl.1
  refine r_aload_n dX8_contracts_11 rfl ?_
  refine r_getR flX8_12_8 rfl ((hs.fr hF).lt (by decide)) ((hs.fr hF).T 0 rfl) ((hs.fr hF).R 0 0 rfl) dX8_contracts_12 ?_
  refine r_getI flX8_89_4 rfl ((hs.fr hF).lt (by decide)) ((hs.fr hF).T 1 rfl) dX8_contracts_15 ?_
  refine r_icmp_lt 31 dX8_contracts_18 (by decide) (fun c18 => ?_) (fun c18 => ?_)
  · skip
    have hno : ¬ ∃ n rw', psR pg pn = some (4, n, rw') := fun ⟨n, rw', z⟩ => by
      rw [ek, hp8] at c18
      have hlt := (nI_ltI (by omega) (by omega)).mp c18
      exact flP_lt hfl ⟨Nat.le_refl pn, _, z, fun q => absurd q (Nat.lt_irrefl _)⟩ hlt
    have hc0 : cn = 0 := (hcn.resolve_left (fun ⟨n, rw', z, _⟩ => hno ⟨n, rw', z⟩)).2
    subst hc0
    refine r_bipush (v := -103) dX8_contracts_31 (by decide) ?_
    exact r_iret dX8_contracts_33 ⟨_, rfl, fun n rw2 e => absurd ⟨_, _, e⟩ hno, fun _ => ⟨rfl, hF⟩⟩
  · skip
    have hkp : k = pn := by
      rcases Nat.lt_or_ge k pn with q | q
      · exact absurd (by rw [ek, hp8]; exact nI_lt q (by omega)) c18
      · omega
    obtain ⟨⟨st, n, rw'⟩, hps, hpc⟩ := hend hkp
    have hw := psR_PW hps
    refine r_aload_n dX8_contracts_21 rfl ?_
    refine r_getR flX8_19_8 rfl ((hs.fr hF).lt (by decide)) ((hs.fr hF).T 0 rfl) ((hs.fr hF).R 0 1 rfl) dX8_contracts_22 ?_
    refine r_cV0i cvX8_103 (kX5_isAtEnd g M8 (hs.fr hF)) ((hs.fr hF).lt (by decide)) ((hs.fr hF).T 3 rfl) ⟨Nat.le_of_ble_eq_true rfl, Nat.le_of_ble_eq_true rfl⟩ (Nat.le_of_ble_eq_true rfl) ⟨Nat.le_of_ble_eq_true rfl, Nat.le_of_ble_eq_true rfl⟩ dX8_contracts_25 (fun r25 M25 h25 => ?_)
    obtain ⟨e25, h25⟩ := h25
    replace e25 := e25.symm
    subst e25
    refine r_if_ne 34 dX8_contracts_28 (by decide) (fun c28 => ?_) (fun c28 => ?_)
    · skip
      have hst : st = 4 := (nI_eq (b := 4) (by have : st ≤ 4 := hw.1; omega) (by decide)).mp (hpc.1.symm.trans (one_of h25 c28))
      subst hst
      have hcn2 : n = cn := by
        rcases hcn with ⟨n2, rw2, z1, z2⟩ | ⟨z1, z2⟩
        · rw [hps] at z1; cases z1; exact z2.symm
        · exact absurd ⟨_, _, hps⟩ z1
      have K8 := K.fr hF (by intro a ha; simp at ha; unfold okK; omega)
      refine r_aload_n dX8_contracts_34 rfl ?_
      refine r_aload_n dX8_contracts_35 rfl ?_
      refine r_getR flX8_19_8 rfl ((hs.fr hF).lt (by decide)) ((hs.fr hF).T 0 rfl) ((hs.fr hF).R 0 1 rfl) dX8_contracts_36 ?_
      refine r_getI flX8_107_5 rfl ((hs.fr hF).lt (by decide)) ((hs.fr hF).T 3 rfl) dX8_contracts_39 ?_
      refine r_putI fpX8_62_8 rfl ((hs.fr hF).lt (by decide)) ((hs.fr hF).T 0 rfl) rfl rfl dX8_contracts_42 ?_
      refine r_iconst (v := 0) dX8_contracts_45 (by decide) ?_
      refine r_istore_n dX8_contracts_46 (by decide) rfl ?_
      exact r_lv (lvSc rfl (lvSc rfl lvS0)) (lp_con g x M σ δ K pg pn hpn h40 hpg hbd cn n rw' hps hcn2 hw M8 hF hpc K8 (n + 1) 0 0 _ (by omega) (by omega) rfl ⟨(show St (sI M8 0 12 (mI M8 3 4)) from K8.1), (FrA.of (ls := []) (Fr.rf [0, 16, 17] [] M8)).sI' (by simp), fun t ht => by omega, fun t ht => by omega, fun t ht => by rw [mI_sI_ne (by decide)], fun k hk => by rw [mI_sI, va_up_ne _ _ hk]⟩ (by rw [mI_sI, va_up_self]; exact hpc.2.1))
    · skip
      have hst : ¬ st = 4 := fun q => zero_of h25 c28 (by rw [hpc.1, q]; rfl)
      have hno : ¬ ∃ n rw', psR pg pn = some (4, n, rw') := fun ⟨n, rw', z⟩ => by rw [hps] at z; cases z; exact hst rfl
      have hc0 : cn = 0 := (hcn.resolve_left (fun ⟨n, rw', z, _⟩ => hno ⟨n, rw', z⟩)).2
      subst hc0
      refine r_bipush (v := -103) dX8_contracts_31 (by decide) ?_
      exact r_iret dX8_contracts_33 ⟨_, rfl, fun n rw2 e => absurd ⟨_, _, e⟩ hno, fun _ => ⟨rfl, hF⟩⟩
