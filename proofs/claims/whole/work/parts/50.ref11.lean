/-! the reference: contracts -/
theorem bitall : ∀ n, n < 9 → ∀ t, t < n → bitI ((1 : Int32) <<< (nI n &&& 31) - 1) t = 1 := by decide +kernel
theorem psR_noend {pg : Rw} {pn k : Nat} (h : flP pg pn k) (hk : k < pn) : ¬ ∃ n rw', psR pg pn = some (4, n, rw') := by
  rintro ⟨n, rw', e⟩
  obtain ⟨_, q, a2, a3⟩ := h
  have e1 : psR pg (k + 1) = none := by rw [psR, a2]; exact a3 hk
  have := psR_none e1 (pn - (k + 1))
  rw [show k + 1 + (pn - (k + 1)) = pn by omega, e] at this
  cases this
theorem RA.con {σ : Ab} {δ : Dy} {M M' : Mm} (C : RA σ δ M) {n : Nat} {rw' : Rw} (w : PW (4, n, rw')) (f : Fr [44, 46, 47, 48] [] M M') (e47 : ∀ k, k < 4 * n → mI M' 47 k = rw' k) (e48 : ∀ t, t < 8 → mI M' 48 t = 10) (e8 : mI M' 44 8 = (1 : Int32) <<< (nI n &&& 31) - 1) (e5 : mI M' 44 5 = nI n) (ek : ∀ k, k = 10 ∨ k = 11 ∨ k = 12 ∨ k = 13 → mI M' 44 k = mI M 44 k) : RA (conS σ n rw') (conD δ) M' := by
  obtain ⟨hs, w0, ⟨d1, d2, d3, d4⟩, V, r1, r2, r3, r4, r5, r6, r7⟩ := C
  have hn : n ≤ 8 := (w.2.1 rfl).2
  have en : ∀ j, j < 4 * n → entP j (rw' j) := fun j hj => w.2.2.2 j (by show j < 4 * n + 0; omega)
  refine ⟨hs.fr f, ⟨hn, w0.2.1, fun t ht => ?_, w0.2.2.2⟩, ⟨d1, d2, d3, fun t ht => Or.inr rfl⟩, ⟨e5, (ek 10 (by decide)).trans V.2.1, fun t ht => ?_, fun s hs => ?_⟩, fun s hs => ?_, fun h h8 => ?_, fun h h8 => ?_, fun t ht => ?_, fun t ht => ?_, ?_, ?_⟩
  · have ht : t < n := ht
    obtain ⟨κ, hκ, e0⟩ := (en (4 * t) (by omega)).1 (by omega)
    refine ⟨?_, (en (4 * t + 1) (by omega)).2.1 (by omega), (en (4 * t + 2) (by omega)).2.2.1 (by omega), (en (4 * t + 3) (by omega)).2.2.2 (by omega)⟩
    show (rw' (4 * t)).toNatClampNeg < 5
    rw [e0, nI_clamp (by omega)]; exact hκ
  · have ht : t < n := ht
    obtain ⟨κ, hκ, e0⟩ := (en (4 * t) (by omega)).1 (by omega)
    refine ⟨?_, e47 _ (by omega), e47 _ (by omega), e47 _ (by omega)⟩
    rw [e47 _ (by omega)]
    show _ = nI (rw' (4 * t)).toNatClampNeg
    rw [e0, nI_clamp (by omega)]
  · rw [f.2.1 50 (by decide)]; exact V.2.2.2 s hs
  · rw [f.2.1 50 (by decide)]; exact r1 s hs
  · rw [f.2.1 49 (by decide)]; exact r2 h h8
  · rw [ek 13 (by decide)]; exact r3 h h8
  · rw [e8]; exact bitall n (by omega) t ht
  · have ht : t < n := ht
    exact e48 t (by omega)
  · rw [ek 11 (by decide)]; exact r6
  · rw [ek 12 (by decide)]; exact r7
def rmX9_contracts : Room := { frames := 4, cells := 0, slots := 0, locals := 91 }
set_option maxHeartbeats 4000000 in
set_option maxRecDepth 100000 in
theorem lp_rconB (g : Gx) (x : Cx) (P : Int32 → Mm → Prop) (M : Mm) (hs : St M) (n : Nat) (hn8 : n ≤ 8) (h5 : mI M 44 5 = nI n) (hP : ∀ M', Fr [44, 47, 48] [] M M' → (∀ k, k < 4 * n → mI M' 47 k = mI M 46 k) → (∀ t, t < 8 → mI M' 48 t = 10) → mI M' 44 8 = (1 : Int32) <<< (nI n &&& 31) - 1 → mI M' 44 6 = mI M 44 6 + 1 → mI M' 44 1 = 0 → (∀ k, k ≠ 1 → k ≠ 6 → k ≠ 8 → mI M' 44 k = mI M 44 k) → P (nI n) M') : ∀ (m : Nat) (i : Nat) (v : Int32) (M1 : Mm), i ≤ 8 → 8 - i < m → v = nI i → Fr [47, 48] [] M M1 → (∀ k, k < 4 * n → mI M1 47 k = mI M 46 k) → (∀ t, t < i → mI M1 48 t = 10) → Vj x g yX9_contracts cX9_contracts 2 (Option.some FieldType.int) rmX9_contracts (Qm x g rmX9_contracts.cells rmX9_contracts.slots (pI P)) 0 0 M1 62 [(0, some (.ref (g.1 + 44))), (1, some (.int v))] [] := by
  intro m
  induction m with
  | zero => intro i v M1 hi8 hn hv hF ea eb; omega
  | succ m ih =>
    intro i v M1 hi8 hn hv hF ea eb
    have hs1 := hs.fr hF
    subst hv
    have hv : nI i = nI i := rfl
    refine r_iload_n dX9_contracts_62 rfl ?_
    refine r_bipush (v := 8) dX9_contracts_63 (by decide) ?_
    refine r_icmp_ge 82 dX9_contracts_65 (by decide) (fun c65 => ?_) (fun c65 => ?_)
    · skip
      have ez := lp_ge (n := 8) hv rfl c65 hi8 (by decide)
      subst ez
      refine r_aload_n dX9_contracts_82 rfl ?_
      refine r_iconst (v := 1) dX9_contracts_83 (by decide) ?_
      refine r_aload_n dX9_contracts_84 rfl ?_
      refine r_getI flX9_91_9 rfl (hs1.lt (by decide)) (hs1.T 44 rfl) dX9_contracts_85 ?_
      refine r_ishl dX9_contracts_88 ?_
      refine r_iconst (v := 1) dX9_contracts_89 (by decide) ?_
      refine r_isub dX9_contracts_90 ?_
      refine r_putI fpX9_94_9 rfl (hs1.lt (by decide)) (hs1.T 44 rfl) rfl rfl dX9_contracts_91 ?_
      refine r_aload_n dX9_contracts_94 rfl ?_
      refine r_dup dX9_contracts_95 rfl ?_
      refine r_getI flX9_97_9 rfl (hs1.lt (by decide)) (hs1.T 44 rfl) dX9_contracts_96 ?_
      refine r_iconst (v := 1) dX9_contracts_99 (by decide) ?_
      refine r_iadd dX9_contracts_100 ?_
      refine r_putI fpX9_97_9 rfl (hs1.lt (by decide)) (hs1.T 44 rfl) rfl rfl dX9_contracts_101 ?_
      refine r_aload_n dX9_contracts_104 rfl ?_
      refine r_iconst (v := 0) dX9_contracts_105 (by decide) ?_
      refine r_putI fpX9_59_9 rfl (hs1.lt (by decide)) (hs1.T 44 rfl) rfl rfl dX9_contracts_106 ?_
      refine r_aload_n dX9_contracts_109 rfl ?_
      refine r_getI flX9_91_9 rfl (hs1.lt (by decide)) (hs1.T 44 rfl) dX9_contracts_110 ?_
      exact r_iret dX9_contracts_113 (by
          have g44 : mI M1 44 = mI M 44 := hF.2.1 44 (by decide)
          refine ⟨_, rfl, (show P (mI M1 44 5) _ from ?_)⟩
          rw [g44, h5]
          refine hP _ ((((hF.mono (by simp) (by simp)).sI (by simp)).sI (by simp)).sI (by simp)) ea eb ?_ ?_ ?_ (fun k k1 k6 k8 => ?_)
          · rfl
          · show mI M1 44 6 + 1 = _
            rw [g44]
          · rw [mI_sI, va_up_self]
          · rw [mI_sI, va_up_ne _ _ k1, mI_sI, va_up_ne _ _ k6, mI_sI, va_up_ne _ _ k8, g44])
    · skip
      have hi8 : i < 8 := lp_lt (n := 8) hv rfl c65 hi8 (by decide)
      refine r_aload_n dX9_contracts_68 rfl ?_
      refine r_getR flX9_19_9 rfl (hs1.lt (by decide)) (hs1.T 44 rfl) (hs1.R 44 9 rfl) dX9_contracts_69 ?_
      refine r_iload_n dX9_contracts_72 rfl ?_
      refine r_bipush (v := 10) dX9_contracts_73 (by decide) ?_
      refine r_ias (hs1.T 48 rfl) (hs1.lt (by decide)) (ix_nI hi8 (by decide)) dX9_contracts_75 ?_
      refine r_iinc dX9_contracts_76 rfl rfl rfl ?_
      refine r_goto 62 dX9_contracts_79 (by decide) ?_
      exact r_lv (lvSc rfl (lvSc rfl lvS0)) (ih (i + 1) _ _ (by omega) (by omega) (nI_inc rfl) (hF.sI (by simp)) ea (fun h hh => by
        rw [mI_sI, va_up_if]
        split
        · rfl
        · exact eb h (by omega)))
set_option maxHeartbeats 4000000 in
set_option maxRecDepth 100000 in
theorem lp_rconA (g : Gx) (x : Cx) (P : Int32 → Mm → Prop) (M : Mm) (hs : St M) (n : Nat) (hn8 : n ≤ 8) (h5 : mI M 44 5 = nI n) (hP : ∀ M', Fr [44, 47, 48] [] M M' → (∀ k, k < 4 * n → mI M' 47 k = mI M 46 k) → (∀ t, t < 8 → mI M' 48 t = 10) → mI M' 44 8 = (1 : Int32) <<< (nI n &&& 31) - 1 → mI M' 44 6 = mI M 44 6 + 1 → mI M' 44 1 = 0 → (∀ k, k ≠ 1 → k ≠ 6 → k ≠ 8 → mI M' 44 k = mI M 44 k) → P (nI n) M') : ∀ (m : Nat) (i : Nat) (v : Int32) (M1 : Mm), i ≤ 4 * n → 4 * n - i < m → v = nI i → Fr [47] [] M M1 → (∀ k, k < i → mI M1 47 k = mI M 46 k) → Vj x g yX9_contracts cX9_contracts 2 (Option.some FieldType.int) rmX9_contracts (Qm x g rmX9_contracts.cells rmX9_contracts.slots (pI P)) 0 0 M1 32 [(0, some (.ref (g.1 + 44))), (1, some (.int v))] [] := by
  intro m
  induction m with
  | zero => intro i v M1 hi8 hn hv hF ea; omega
  | succ m ih =>
    intro i v M1 hi8 hn hv hF ea
    have hs1 := hs.fr hF
    have g44 : mI M1 44 = mI M 44 := hF.2.1 44 (by decide)
    subst hv
    have hv : nI i = nI i := rfl
    refine r_iload_n dX9_contracts_32 rfl ?_
    refine r_iconst (v := 4) dX9_contracts_33 (by decide) ?_
    refine r_aload_n dX9_contracts_34 rfl ?_
    refine r_getI flX9_91_9 rfl (hs1.lt (by decide)) (hs1.T 44 rfl) dX9_contracts_35 ?_
    refine r_imul dX9_contracts_38 ?_
    refine r_icmp_ge 60 dX9_contracts_39 (by decide) (fun c39 => ?_) (fun c39 => ?_)
    · skip
      rw [g44, h5, nI_40] at c39
      have ez := lp_ge (n := 4 * n) hv rfl c39 hi8 (by omega)
      subst ez
      refine r_iconst (v := 0) dX9_contracts_60 (by decide) ?_
      refine r_istore_n dX9_contracts_61 (by decide) rfl ?_
      exact r_lv (lvSc rfl (lvSc rfl lvS0)) (lp_rconB g x P M hs n hn8 h5 hP 9 0 0 M1 (by omega) (by omega) rfl (hF.mono (by simp) (by simp)) ea (fun t ht => by omega))
    · skip
      rw [g44, h5, nI_40] at c39
      have hi : i < 4 * n := lp_lt (n := 4 * n) hv rfl c39 hi8 (by omega)
      refine r_aload_n dX9_contracts_42 rfl ?_
      refine r_getR flX9_16_9 rfl (hs1.lt (by decide)) (hs1.T 44 rfl) (hs1.R 44 7 rfl) dX9_contracts_43 ?_
      refine r_iload_n dX9_contracts_46 rfl ?_
      refine r_aload_n dX9_contracts_47 rfl ?_
      refine r_getR flX9_13_9 rfl (hs1.lt (by decide)) (hs1.T 44 rfl) (hs1.R 44 2 rfl) dX9_contracts_48 ?_
      refine r_iload_n dX9_contracts_51 rfl ?_
      refine r_ial (hs1.T 46 rfl) (hs1.lt (by decide)) (ix_nI (by omega) (by decide)) dX9_contracts_52 ?_
      refine r_ias (hs1.T 47 rfl) (hs1.lt (by decide)) (ix_nI (by omega) (by decide)) dX9_contracts_53 ?_
      refine r_iinc dX9_contracts_54 rfl rfl rfl ?_
      refine r_goto 32 dX9_contracts_57 (by decide) ?_
      exact r_lv (lvSc rfl (lvSc rfl lvS0)) (ih (i + 1) _ _ (by omega) (by omega) (nI_inc rfl) (hF.sI (by simp)) (fun h hh => by
        rw [mI_sI, va_up_if]
        split
        · next e => rw [e, hF.2.1 46 (by decide)]
        · exact ea h (by omega)))
set_option maxHeartbeats 4000000 in
set_option maxRecDepth 100000 in
theorem kX9_contracts (g : Gx) (M : Mm) (σ : Ab) (δ : Dy) (C : RA σ δ M) (pg : Rw) (pn : Nat) (hpn : mI M 44 1 = nI pn) (h40 : pn ≤ 40) (hpg : ∀ k, k < pn → mI M 45 k = pg k) : Ct g yX9_contracts cX9_contracts 2 (Option.some FieldType.int) rmX9_contracts [.ref (g.1 + 44)] M (pI fun r M' => (∀ n rw', psR pg pn = some (4, n, rw') → r = nI n ∧ RA (conS σ n rw') (conD δ) M' ∧ Fr [44, 46, 47, 48] [] M M' ∧ mI M' 44 1 = 0 ∧ mI M' 44 6 = mI M 44 6 + 1 ∧ ∀ k, k ≠ 1 → k ≠ 3 → k ≠ 4 → k ≠ 5 → k ≠ 6 → k ≠ 8 → mI M' 44 k = mI M 44 k) ∧ ((¬ ∃ n rw', psR pg pn = some (4, n, rw')) → r = -103 ∧ Fr [44, 46] [] M M' ∧ ∀ k, k ≠ 3 → k ≠ 4 → mI M' 44 k = mI M 44 k)) := by
  obtain ⟨hs, w, dw, V, r1, r2, r3, r4, r5, r6, r7⟩ := id C
  refine Ct.of rfl (Nat.le_of_ble_eq_true rfl) (fun x => ?_)
  refine r_aload_n dX9_contracts_0 rfl ?_
  refine r_cV0i cvX9_87 (kX9_faultOf g M hs pg pn hpn h40 hpg) (hs.lt (by decide)) (hs.T 44 rfl) ⟨Nat.le_of_ble_eq_true rfl, Nat.le_of_ble_eq_true rfl⟩ (Nat.le_of_ble_eq_true rfl) ⟨Nat.le_of_ble_eq_true rfl, Nat.le_of_ble_eq_true rfl⟩ dX9_contracts_1 (fun z1 M1 h1 => ?_)
  obtain ⟨hF, ek, k, e1, hfl, hq⟩ := h1
  have hs1 := hs.fr hF
  refine r_aload_n dX9_contracts_4 rfl ?_
  refine r_getI flX9_59_9 rfl (hs1.lt (by decide)) (hs1.T 44 rfl) dX9_contracts_5 ?_
  refine r_icmp_lt 19 dX9_contracts_8 (by decide) (fun c8 => ?_) (fun c8 => ?_)
  · skip
    rw [e1, ek 1 (by decide) (by decide), hpn] at c8
    have hne := psR_noend hfl ((nI_ltI (by have := hfl.1; omega) (by omega)).mp c8)
    refine r_bipush (v := -103) dX9_contracts_19 (by decide) ?_
    exact r_iret dX9_contracts_21 ⟨_, rfl, fun n rw' e => absurd ⟨n, rw', e⟩ hne, fun _ => ⟨rfl, hF, ek⟩⟩
  · skip
    rw [e1, ek 1 (by decide) (by decide), hpn] at c8
    have ekn : k = pn := by
      have := hfl.1
      rcases Nat.lt_or_ge k pn with q | q
      · exact absurd (nI_lt q (by omega)) c8
      · omega
    obtain ⟨⟨st, n, rw'⟩, hps, p1, p2, p3⟩ := hq ekn
    have p1 : mI M1 44 4 = nI st := p1
    have p2 : mI M1 44 3 = nI n := p2
    have hw := psR_PW hps
    have hst : st ≤ 4 := hw.1
    refine r_aload_n dX9_contracts_11 rfl ?_
    refine r_getI flX9_65_9 rfl (hs1.lt (by decide)) (hs1.T 44 rfl) dX9_contracts_12 ?_
    refine r_iconst (v := 4) dX9_contracts_15 (by decide) ?_
    refine r_icmp_eq 22 dX9_contracts_16 (by decide) (fun c16 => ?_) (fun c16 => ?_)
    · skip
      rw [p1] at c16
      have e4 : st = 4 := (nI_eq (b := 4) (by omega) (by decide)).mp c16
      subst e4
      have hn8 : n ≤ 8 := (hw.2.1 rfl).2
      refine r_aload_n dX9_contracts_22 rfl ?_
      refine r_aload_n dX9_contracts_23 rfl ?_
      refine r_getI flX9_62_9 rfl (hs1.lt (by decide)) (hs1.T 44 rfl) dX9_contracts_24 ?_
      refine r_putI fpX9_91_9 rfl (hs1.lt (by decide)) (hs1.T 44 rfl) rfl rfl dX9_contracts_27 ?_
      refine r_iconst (v := 0) dX9_contracts_30 (by decide) ?_
      refine r_istore_n dX9_contracts_31 (by decide) rfl ?_
      exact r_lv (lvSc rfl (lvSc rfl lvS0)) (lp_rconA g x _ (sI M1 44 5 (mI M1 44 3)) hs1 n hn8 (by rw [mI_sI, va_up_self]; exact p2) (fun M' f1 f2 f3 f4 f5 f6 f7 => by
        refine ⟨fun n' rw'' e => ?_, fun z => absurd ⟨n, rw', hps⟩ z⟩
        rw [hps] at e
        injection e with e
        injection e with _ e
        injection e with e e'
        subst e
        subst e'
        have hT : Fr [44, 46, 47, 48] [] M M' := ((hF.mono (by simp) (by simp)).sI (by simp)).tr (f1.mono (by simp) (by simp))
        refine ⟨rfl, C.con hw hT (fun k hk => (f2 k hk).trans (p3 k (by show k < 4 * n + 0; omega))) f3 f4 ((f7 5 (by decide) (by decide) (by decide)).trans (by rw [mI_sI, va_up_self]; exact p2)) (fun k hk => ?_), hT, f6, ?_, fun k k1 k3 k4 k5 k6 k8 => ?_⟩
        · rw [f7 k (by omega) (by omega) (by omega), mI_sI, va_up_ne _ _ (by omega)]; exact ek k (by omega) (by omega)
        · rw [f5, mI_sI, va_up_ne _ _ (by decide), ek 6 (by decide) (by decide)]
        · rw [f7 k k1 k6 k8, mI_sI, va_up_ne _ _ k5]; exact ek k k3 k4) (4 * n + 1) 0 0 _ (by omega) (by omega) rfl (Fr.rf _ _ _) (fun k hk => by omega))
    · skip
      have hne : ¬ ∃ n rw', psR pg pn = some (4, n, rw') := by
        rintro ⟨n', rw'', e⟩
        rw [hps] at e
        injection e with e
        injection e with e _
        exact c16 (by rw [p1, e]; rfl)
      refine r_bipush (v := -103) dX9_contracts_19 (by decide) ?_
      exact r_iret dX9_contracts_21 ⟨_, rfl, fun n rw' e => absurd ⟨n, rw', e⟩ hne, fun _ => ⟨rfl, hF, ek⟩⟩
