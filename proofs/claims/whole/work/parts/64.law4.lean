set_option maxHeartbeats 4000000 in
set_option maxRecDepth 100000 in
theorem lc_paid (g : Gx) (x : Cx) (Q : State → Prop) (b L : Nat) (zs : Nat → Int32) (hX : va_X b L zs x.2.2.2.1 x.2.2.2.1.heap) (hb : b < x.2.2.2.1.heap.size) (hg : b < g.1) (hL : L ≤ 2560) (i : Nat) (hi : i + 5 ≤ L) (k sl : Nat) (hk : k + 8 ≤ 600000) (hsl : sl + 24 ≤ 7302250) (σ : Ab) (δ : Dy) (pg : Rw) (pn tr : Nat) (M : Mm) (I : LI σ δ pg pn tr M) (K : ∀ M' σ' δ' pg' pn' tr' k' sl', LI σ' δ' pg' pn' tr' M' → tr' ≤ tr + 1 → k' ≤ k + 8 → sl' ≤ sl + 24 → Vj x g yL_law cL_law 4 (some .boolean) room_1 Q k' sl' M' 921 [(0, some (.ref b)), (1, some (.ref (g.1 + 0))), (2, some (.ref (g.1 + 44))), (3, some (.int (nI i)))] []) : Vj x g yL_law cL_law 4 (some .boolean) room_1 Q k sl M 314 [(0, some (.ref b)), (1, some (.ref (g.1 + 0))), (2, some (.ref (g.1 + 44))), (3, some (.int (nI i)))] [] := by
  obtain ⟨CC, RR, E⟩ := I
  have hs := CC.1
  refine r_aload_n dL_law_314 rfl ?_
  refine r_aload_n dL_law_315 rfl ?_
  refine r_iload_n dL_law_316 rfl ?_
  refine r_iconst (v := 1) dL_law_317 (by decide) ?_
  refine r_iadd dL_law_318 ?_
  refine r_sld hX hb hg (sx (c := 1) (by omega) hL).1 dL_law_319 ?_
  rw [show (nI i + 1).toNatClampNeg = i + 1 from (sx (i := i) (c := 1) (by omega) hL).2]
  refine r_dia (P := fun u => u = (if zs (i + 2) = 0 then (0 : Int32) else 1)) 333 (fun u hu => ?_) (fun hJ333 => ?_)
  · skip
    have hb01 : b01 u := by
      rw [hu]
      split
      · exact Or.inl rfl
      · exact Or.inr rfl
    refine r_cV2i cvL_42 (kX8_paid g M σ δ CC (zs (i + 1)) u hb01) (hs.lt (by decide)) (hs.T 0 rfl) ⟨Nat.le_of_ble_eq_true rfl, Nat.le_of_ble_eq_true rfl⟩ (Nat.le_of_ble_eq_true rfl) ⟨by show k + 0 ≤ 600000; omega, by show sl + 0 ≤ 7302250; omega⟩ dL_law_333 (fun r1 M1 h1 => ?_)
    obtain ⟨f1, q1, d1⟩ := h1
    have hs1 := hs.fr f1
    have RR1 : RA σ δ M1 := RR.fr f1 (by intro a ha; simp [cF] at ha; (try unfold okK); omega)
    have EE1 := E.keep (KC.fr f1 (by intro a ha; simp [cF] at ha; (try unfold okK); omega)) (KR.fr f1 (by intro a ha; simp [cF] at ha; (try unfold okK); omega))
    refine r_aload_n dL_law_336 rfl ?_
    refine r_aload_n dL_law_337 rfl ?_
    refine r_iload_n dL_law_338 rfl ?_
    refine r_iconst (v := 1) dL_law_339 (by decide) ?_
    refine r_iadd dL_law_340 ?_
    refine r_sld hX hb hg (sx (c := 1) (by omega) hL).1 dL_law_341 ?_
    rw [show (nI i + 1).toNatClampNeg = i + 1 from (sx (i := i) (c := 1) (by omega) hL).2]
    refine r_dia (P := fun u => u = (if zs (i + 2) = 0 then (0 : Int32) else 1)) 355 (fun u2 hu2 => ?_) (fun hJ355 => ?_)
    · skip
      replace hu2 := hu2.trans hu.symm
      subst hu2
      refine r_cV2i cvL_46 (kX9_paid g M1 σ δ RR1 (zs (i + 1)) u2 hb01) (hs1.lt (by decide)) (hs1.T 44 rfl) ⟨Nat.le_of_ble_eq_true rfl, Nat.le_of_ble_eq_true rfl⟩ (Nat.le_of_ble_eq_true rfl) ⟨by show k + 0 ≤ 600000; omega, by show sl + 0 ≤ 7302250; omega⟩ dL_law_355 (fun r2 M2 h2 => ?_)
      obtain ⟨f2, q2, d2, e2⟩ := h2
      have hs2 := hs1.fr f2
      have EE2 := EE1.keep (KC.fr f2 (by intro a ha; simp [cF] at ha; (try unfold okK); omega)) (KR.f44 f2 (by intro a ha; simp [cF] at ha; (try unfold okK); omega) (fun k hk => e2 k (by omega)))
      have CC2 := d1.fr f2 (by intro a ha; simp [cF] at ha; (try unfold okK); omega)
      refine r_icmp_eq 921 dL_law_358 (by decide) (fun c358 => ?_) (fun c358 => ?_)
      · skip
        exact K _ σ _ pg pn tr _ _ ⟨CC2, d2, EE2⟩ (by omega) (by show k + 0 + 0 ≤ _; omega) (by show sl + 0 + 0 ≤ _; omega)
      · skip
        exact absurd (q1.trans q2.symm) c358
    · skip
      refine r_aload_n dL_law_342 rfl ?_
      refine r_iload_n dL_law_343 rfl ?_
      refine r_iconst (v := 2) dL_law_344 (by decide) ?_
      refine r_iadd dL_law_345 ?_
      refine r_sld hX hb hg (sx (c := 2) (by omega) hL).1 dL_law_346 ?_
      rw [show (nI i + 2).toNatClampNeg = i + 2 from (sx (i := i) (c := 2) (by omega) hL).2]
      refine r_if_eq 354 dL_law_347 (by decide) (fun c347 => ?_) (fun c347 => ?_)
      · skip
        have hfin : (0 : Int32) = (if zs (i + 2) = 0 then (0 : Int32) else 1) := by rw [if_pos c347]
        refine r_iconst (v := 0) dL_law_354 (by decide) ?_
        exact hJ355 _ hfin
      · skip
        have hfin : (1 : Int32) = (if zs (i + 2) = 0 then (0 : Int32) else 1) := by rw [if_neg c347]
        refine r_iconst (v := 1) dL_law_350 (by decide) ?_
        refine r_goto 355 dL_law_351 (by decide) ?_
        exact hJ355 _ hfin
  · skip
    refine r_aload_n dL_law_320 rfl ?_
    refine r_iload_n dL_law_321 rfl ?_
    refine r_iconst (v := 2) dL_law_322 (by decide) ?_
    refine r_iadd dL_law_323 ?_
    refine r_sld hX hb hg (sx (c := 2) (by omega) hL).1 dL_law_324 ?_
    rw [show (nI i + 2).toNatClampNeg = i + 2 from (sx (i := i) (c := 2) (by omega) hL).2]
    refine r_if_eq 332 dL_law_325 (by decide) (fun c325 => ?_) (fun c325 => ?_)
    · skip
      have hfin : (0 : Int32) = (if zs (i + 2) = 0 then (0 : Int32) else 1) := by rw [if_pos c325]
      refine r_iconst (v := 0) dL_law_332 (by decide) ?_
      exact hJ333 _ hfin
    · skip
      have hfin : (1 : Int32) = (if zs (i + 2) = 0 then (0 : Int32) else 1) := by rw [if_neg c325]
      refine r_iconst (v := 1) dL_law_328 (by decide) ?_
      refine r_goto 333 dL_law_329 (by decide) ?_
      exact hJ333 _ hfin
set_option maxHeartbeats 4000000 in
set_option maxRecDepth 100000 in
theorem lc_dog (g : Gx) (x : Cx) (Q : State → Prop) (b L : Nat) (zs : Nat → Int32) (hX : va_X b L zs x.2.2.2.1 x.2.2.2.1.heap) (hb : b < x.2.2.2.1.heap.size) (hg : b < g.1) (hL : L ≤ 2560) (i : Nat) (hi : i + 5 ≤ L) (k sl : Nat) (hk : k + 8 ≤ 600000) (hsl : sl + 24 ≤ 7302250) (σ : Ab) (δ : Dy) (pg : Rw) (pn tr : Nat) (M : Mm) (I : LI σ δ pg pn tr M) (K : ∀ M' σ' δ' pg' pn' tr' k' sl', LI σ' δ' pg' pn' tr' M' → tr' ≤ tr + 1 → k' ≤ k + 8 → sl' ≤ sl + 24 → Vj x g yL_law cL_law 4 (some .boolean) room_1 Q k' sl' M' 921 [(0, some (.ref b)), (1, some (.ref (g.1 + 0))), (2, some (.ref (g.1 + 44))), (3, some (.int (nI i)))] []) : Vj x g yL_law cL_law 4 (some .boolean) room_1 Q k sl M 429 [(0, some (.ref b)), (1, some (.ref (g.1 + 0))), (2, some (.ref (g.1 + 44))), (3, some (.int (nI i)))] [] := by
  obtain ⟨CC, RR, E⟩ := I
  have hs := CC.1
  refine r_aload_n dL_law_429 rfl ?_
  refine r_aload_n dL_law_430 rfl ?_
  refine r_iload_n dL_law_431 rfl ?_
  refine r_iconst (v := 1) dL_law_432 (by decide) ?_
  refine r_iadd dL_law_433 ?_
  refine r_sld hX hb hg (sx (c := 1) (by omega) hL).1 dL_law_434 ?_
  rw [show (nI i + 1).toNatClampNeg = i + 1 from (sx (i := i) (c := 1) (by omega) hL).2]
  refine r_dia (P := fun u => u = (if zs (i + 2) = 0 then (0 : Int32) else 1)) 448 (fun u hu => ?_) (fun hJ448 => ?_)
  · skip
    have hb01 : b01 u := by
      rw [hu]
      split
      · exact Or.inl rfl
      · exact Or.inr rfl
    refine r_cV2i cvL_55 (kX8_dog g M σ δ CC (zs (i + 1)) u hb01) (hs.lt (by decide)) (hs.T 0 rfl) ⟨Nat.le_of_ble_eq_true rfl, Nat.le_of_ble_eq_true rfl⟩ (Nat.le_of_ble_eq_true rfl) ⟨by show k + 0 ≤ 600000; omega, by show sl + 0 ≤ 7302250; omega⟩ dL_law_448 (fun r1 M1 h1 => ?_)
    obtain ⟨f1, q1, d1⟩ := h1
    have hs1 := hs.fr f1
    have RR1 : RA σ δ M1 := RR.fr f1 (by intro a ha; simp [cF] at ha; (try unfold okK); omega)
    have EE1 := E.keep (KC.fr f1 (by intro a ha; simp [cF] at ha; (try unfold okK); omega)) (KR.fr f1 (by intro a ha; simp [cF] at ha; (try unfold okK); omega))
    refine r_aload_n dL_law_451 rfl ?_
    refine r_aload_n dL_law_452 rfl ?_
    refine r_iload_n dL_law_453 rfl ?_
    refine r_iconst (v := 1) dL_law_454 (by decide) ?_
    refine r_iadd dL_law_455 ?_
    refine r_sld hX hb hg (sx (c := 1) (by omega) hL).1 dL_law_456 ?_
    rw [show (nI i + 1).toNatClampNeg = i + 1 from (sx (i := i) (c := 1) (by omega) hL).2]
    refine r_dia (P := fun u => u = (if zs (i + 2) = 0 then (0 : Int32) else 1)) 470 (fun u2 hu2 => ?_) (fun hJ470 => ?_)
    · skip
      replace hu2 := hu2.trans hu.symm
      subst hu2
      refine r_cV2i cvL_58 (kX9_dog g M1 σ δ RR1 (zs (i + 1)) u2 hb01) (hs1.lt (by decide)) (hs1.T 44 rfl) ⟨Nat.le_of_ble_eq_true rfl, Nat.le_of_ble_eq_true rfl⟩ (Nat.le_of_ble_eq_true rfl) ⟨by show k + 0 ≤ 600000; omega, by show sl + 0 ≤ 7302250; omega⟩ dL_law_470 (fun r2 M2 h2 => ?_)
      obtain ⟨f2, q2, d2, e2⟩ := h2
      have hs2 := hs1.fr f2
      have EE2 := EE1.keep (KC.fr f2 (by intro a ha; simp [cF] at ha; (try unfold okK); omega)) (KR.f44 f2 (by intro a ha; simp [cF] at ha; (try unfold okK); omega) (fun k hk => e2 k (by omega)))
      have CC2 := d1.fr f2 (by intro a ha; simp [cF] at ha; (try unfold okK); omega)
      refine r_icmp_eq 921 dL_law_473 (by decide) (fun c473 => ?_) (fun c473 => ?_)
      · skip
        exact K _ σ _ pg pn tr _ _ ⟨CC2, d2, EE2⟩ (by omega) (by show k + 0 + 0 ≤ _; omega) (by show sl + 0 + 0 ≤ _; omega)
      · skip
        exact absurd (q1.trans q2.symm) c473
    · skip
      refine r_aload_n dL_law_457 rfl ?_
      refine r_iload_n dL_law_458 rfl ?_
      refine r_iconst (v := 2) dL_law_459 (by decide) ?_
      refine r_iadd dL_law_460 ?_
      refine r_sld hX hb hg (sx (c := 2) (by omega) hL).1 dL_law_461 ?_
      rw [show (nI i + 2).toNatClampNeg = i + 2 from (sx (i := i) (c := 2) (by omega) hL).2]
      refine r_if_eq 469 dL_law_462 (by decide) (fun c462 => ?_) (fun c462 => ?_)
      · skip
        have hfin : (0 : Int32) = (if zs (i + 2) = 0 then (0 : Int32) else 1) := by rw [if_pos c462]
        refine r_iconst (v := 0) dL_law_469 (by decide) ?_
        exact hJ470 _ hfin
      · skip
        have hfin : (1 : Int32) = (if zs (i + 2) = 0 then (0 : Int32) else 1) := by rw [if_neg c462]
        refine r_iconst (v := 1) dL_law_465 (by decide) ?_
        refine r_goto 470 dL_law_466 (by decide) ?_
        exact hJ470 _ hfin
  · skip
    refine r_aload_n dL_law_435 rfl ?_
    refine r_iload_n dL_law_436 rfl ?_
    refine r_iconst (v := 2) dL_law_437 (by decide) ?_
    refine r_iadd dL_law_438 ?_
    refine r_sld hX hb hg (sx (c := 2) (by omega) hL).1 dL_law_439 ?_
    rw [show (nI i + 2).toNatClampNeg = i + 2 from (sx (i := i) (c := 2) (by omega) hL).2]
    refine r_if_eq 447 dL_law_440 (by decide) (fun c440 => ?_) (fun c440 => ?_)
    · skip
      have hfin : (0 : Int32) = (if zs (i + 2) = 0 then (0 : Int32) else 1) := by rw [if_pos c440]
      refine r_iconst (v := 0) dL_law_447 (by decide) ?_
      exact hJ448 _ hfin
    · skip
      have hfin : (1 : Int32) = (if zs (i + 2) = 0 then (0 : Int32) else 1) := by rw [if_neg c440]
      refine r_iconst (v := 1) dL_law_443 (by decide) ?_
      refine r_goto 448 dL_law_444 (by decide) ?_
      exact hJ448 _ hfin
