set_option maxHeartbeats 4000000 in
set_option maxRecDepth 100000 in
theorem lc_where (g : Gx) (x : Cx) (Q : State → Prop) (b L : Nat) (zs : Nat → Int32) (hX : va_X b L zs x.2.2.2.1 x.2.2.2.1.heap) (hb : b < x.2.2.2.1.heap.size) (hg : b < g.1) (hL : L ≤ 2560) (i : Nat) (hi : i + 5 ≤ L) (k sl : Nat) (hk : k + 8 ≤ 600000) (hsl : sl + 24 ≤ 7302250) (σ : Ab) (δ : Dy) (pg : Rw) (pn tr : Nat) (M : Mm) (I : LI σ δ pg pn tr M) (K : ∀ M' σ' δ' pg' pn' tr' k' sl', LI σ' δ' pg' pn' tr' M' → tr' ≤ tr + 1 → k' ≤ k + 8 → sl' ≤ sl + 24 → Vj x g yL_law cL_law 4 (some .boolean) room_1 Q k' sl' M' 921 [(0, some (.ref b)), (1, some (.ref (g.1 + 0))), (2, some (.ref (g.1 + 44))), (3, some (.int (nI i)))] []) : Vj x g yL_law cL_law 4 (some .boolean) room_1 Q k sl M 580 [(0, some (.ref b)), (1, some (.ref (g.1 + 0))), (2, some (.ref (g.1 + 44))), (3, some (.int (nI i)))] [] := by
  obtain ⟨CC, RR, E⟩ := I
  have hs := CC.1
  refine r_aload_n dL_law_580 rfl ?_
  refine r_aload_n dL_law_581 rfl ?_
  refine r_iload_n dL_law_582 rfl ?_
  refine r_iconst (v := 1) dL_law_583 (by decide) ?_
  refine r_iadd dL_law_584 ?_
  refine r_sld hX hb hg (sx (c := 1) (by omega) hL).1 dL_law_585 ?_
  rw [show (nI i + 1).toNatClampNeg = i + 1 from (sx (i := i) (c := 1) (by omega) hL).2]
  refine r_aload_n dL_law_586 rfl ?_
  refine r_iload_n dL_law_587 rfl ?_
  refine r_iconst (v := 2) dL_law_588 (by decide) ?_
  refine r_iadd dL_law_589 ?_
  refine r_sld hX hb hg (sx (c := 2) (by omega) hL).1 dL_law_590 ?_
  rw [show (nI i + 2).toNatClampNeg = i + 2 from (sx (i := i) (c := 2) (by omega) hL).2]
  refine r_cV2i cvL_76 (kX8_where g M σ δ CC (zs (i + 1)) (zs (i + 2))) (hs.lt (by decide)) (hs.T 0 rfl) ⟨Nat.le_of_ble_eq_true rfl, Nat.le_of_ble_eq_true rfl⟩ (Nat.le_of_ble_eq_true rfl) ⟨by show k + 0 ≤ 600000; omega, by show sl + 0 ≤ 7302250; omega⟩ dL_law_591 (fun r1 M1 h1 => ?_)
  obtain ⟨f1, q1⟩ := h1
  have hs1 := hs.fr f1
  have RR1 : RA σ δ M1 := RR.fr f1 (by intro a ha; simp [cF] at ha; (try unfold okK); omega)
  have EE1 := E.keep (KC.fr f1 (by intro a ha; simp [cF] at ha; (try unfold okK); omega)) (KR.fr f1 (by intro a ha; simp [cF] at ha; (try unfold okK); omega))
  have CC1 : CA σ δ M1 := CC.fr f1 (by intro a ha; simp [cF] at ha; (try unfold okK); omega)
  refine r_aload_n dL_law_594 rfl ?_
  refine r_aload_n dL_law_595 rfl ?_
  refine r_iload_n dL_law_596 rfl ?_
  refine r_iconst (v := 1) dL_law_597 (by decide) ?_
  refine r_iadd dL_law_598 ?_
  refine r_sld hX hb hg (sx (c := 1) (by omega) hL).1 dL_law_599 ?_
  rw [show (nI i + 1).toNatClampNeg = i + 1 from (sx (i := i) (c := 1) (by omega) hL).2]
  refine r_aload_n dL_law_600 rfl ?_
  refine r_iload_n dL_law_601 rfl ?_
  refine r_iconst (v := 2) dL_law_602 (by decide) ?_
  refine r_iadd dL_law_603 ?_
  refine r_sld hX hb hg (sx (c := 2) (by omega) hL).1 dL_law_604 ?_
  rw [show (nI i + 2).toNatClampNeg = i + 2 from (sx (i := i) (c := 2) (by omega) hL).2]
  refine r_cV2i cvL_79 (kX9_where g M1 σ δ RR1 (zs (i + 1)) (zs (i + 2))) (hs1.lt (by decide)) (hs1.T 44 rfl) ⟨Nat.le_of_ble_eq_true rfl, Nat.le_of_ble_eq_true rfl⟩ (Nat.le_of_ble_eq_true rfl) ⟨by show k + 0 ≤ 600000; omega, by show sl + 0 ≤ 7302250; omega⟩ dL_law_605 (fun r2 M2 h2 => ?_)
  obtain ⟨f2, q2⟩ := h2
  have hs2 := hs1.fr f2
  have EE2 := EE1.keep (KC.fr f2 (by intro a ha; simp [cF] at ha; (try unfold okK); omega)) (KR.fr f2 (by intro a ha; simp [cF] at ha; (try unfold okK); omega))
  have CC2 := CC1.fr f2 (by intro a ha; simp [cF] at ha; (try unfold okK); omega)
  have RR2 : RA σ δ M2 := RR1.fr f2 (by intro a ha; simp [cF] at ha; (try unfold okK); omega)
  refine r_icmp_eq 921 dL_law_608 (by decide) (fun c608 => ?_) (fun c608 => ?_)
  · skip
    exact K _ σ _ pg pn tr _ _ ⟨CC2, RR2, EE2⟩ (by omega) (by show k + 0 + 0 ≤ _; omega) (by show sl + 0 + 0 ≤ _; omega)
  · skip
    exact absurd (q1.trans q2.symm) c608
set_option maxHeartbeats 4000000 in
set_option maxRecDepth 100000 in
theorem lc_still (g : Gx) (x : Cx) (Q : State → Prop) (b L : Nat) (zs : Nat → Int32) (hX : va_X b L zs x.2.2.2.1 x.2.2.2.1.heap) (hb : b < x.2.2.2.1.heap.size) (hg : b < g.1) (hL : L ≤ 2560) (i : Nat) (hi : i + 5 ≤ L) (k sl : Nat) (hk : k + 8 ≤ 600000) (hsl : sl + 24 ≤ 7302250) (σ : Ab) (δ : Dy) (pg : Rw) (pn tr : Nat) (M : Mm) (I : LI σ δ pg pn tr M) (K : ∀ M' σ' δ' pg' pn' tr' k' sl', LI σ' δ' pg' pn' tr' M' → tr' ≤ tr + 1 → k' ≤ k + 8 → sl' ≤ sl + 24 → Vj x g yL_law cL_law 4 (some .boolean) room_1 Q k' sl' M' 921 [(0, some (.ref b)), (1, some (.ref (g.1 + 0))), (2, some (.ref (g.1 + 44))), (3, some (.int (nI i)))] []) : Vj x g yL_law cL_law 4 (some .boolean) room_1 Q k sl M 710 [(0, some (.ref b)), (1, some (.ref (g.1 + 0))), (2, some (.ref (g.1 + 44))), (3, some (.int (nI i)))] [] := by
  obtain ⟨CC, RR, E⟩ := I
  have hs := CC.1
  refine r_aload_n dL_law_710 rfl ?_
  refine r_cV0i cvL_90 (kX8_still g M σ δ CC ) (hs.lt (by decide)) (hs.T 0 rfl) ⟨Nat.le_of_ble_eq_true rfl, Nat.le_of_ble_eq_true rfl⟩ (Nat.le_of_ble_eq_true rfl) ⟨by show k + 0 ≤ 600000; omega, by show sl + 0 ≤ 7302250; omega⟩ dL_law_711 (fun r1 M1 h1 => ?_)
  obtain ⟨f1, q1⟩ := h1
  have hs1 := hs.fr f1
  have RR1 : RA σ δ M1 := RR.fr f1 (by intro a ha; simp [cF] at ha; (try unfold okK); omega)
  have EE1 := E.keep (KC.fr f1 (by intro a ha; simp [cF] at ha; (try unfold okK); omega)) (KR.fr f1 (by intro a ha; simp [cF] at ha; (try unfold okK); omega))
  have CC1 : CA σ δ M1 := CC.fr f1 (by intro a ha; simp [cF] at ha; (try unfold okK); omega)
  refine r_aload_n dL_law_714 rfl ?_
  refine r_cV0i cvL_93 (kX9_still g M1 σ δ RR1 ) (hs1.lt (by decide)) (hs1.T 44 rfl) ⟨Nat.le_of_ble_eq_true rfl, Nat.le_of_ble_eq_true rfl⟩ (Nat.le_of_ble_eq_true rfl) ⟨by show k + 0 ≤ 600000; omega, by show sl + 0 ≤ 7302250; omega⟩ dL_law_715 (fun r2 M2 h2 => ?_)
  obtain ⟨f2, q2⟩ := h2
  have hs2 := hs1.fr f2
  have EE2 := EE1.keep (KC.fr f2 (by intro a ha; simp [cF] at ha; (try unfold okK); omega)) (KR.fr f2 (by intro a ha; simp [cF] at ha; (try unfold okK); omega))
  have CC2 := CC1.fr f2 (by intro a ha; simp [cF] at ha; (try unfold okK); omega)
  have RR2 : RA σ δ M2 := RR1.fr f2 (by intro a ha; simp [cF] at ha; (try unfold okK); omega)
  refine r_icmp_eq 921 dL_law_718 (by decide) (fun c718 => ?_) (fun c718 => ?_)
  · skip
    exact K _ σ _ pg pn tr _ _ ⟨CC2, RR2, EE2⟩ (by omega) (by show k + 0 + 0 ≤ _; omega) (by show sl + 0 + 0 ≤ _; omega)
  · skip
    exact absurd (q1.trans q2.symm) c718
set_option maxHeartbeats 4000000 in
set_option maxRecDepth 100000 in
theorem lc_who (g : Gx) (x : Cx) (Q : State → Prop) (b L : Nat) (zs : Nat → Int32) (hX : va_X b L zs x.2.2.2.1 x.2.2.2.1.heap) (hb : b < x.2.2.2.1.heap.size) (hg : b < g.1) (hL : L ≤ 2560) (i : Nat) (hi : i + 5 ≤ L) (k sl : Nat) (hk : k + 8 ≤ 600000) (hsl : sl + 24 ≤ 7302250) (σ : Ab) (δ : Dy) (pg : Rw) (pn tr : Nat) (M : Mm) (I : LI σ δ pg pn tr M) (K : ∀ M' σ' δ' pg' pn' tr' k' sl', LI σ' δ' pg' pn' tr' M' → tr' ≤ tr + 1 → k' ≤ k + 8 → sl' ≤ sl + 24 → Vj x g yL_law cL_law 4 (some .boolean) room_1 Q k' sl' M' 921 [(0, some (.ref b)), (1, some (.ref (g.1 + 0))), (2, some (.ref (g.1 + 44))), (3, some (.int (nI i)))] []) : Vj x g yL_law cL_law 4 (some .boolean) room_1 Q k sl M 756 [(0, some (.ref b)), (1, some (.ref (g.1 + 0))), (2, some (.ref (g.1 + 44))), (3, some (.int (nI i)))] [] := by
  obtain ⟨CC, RR, E⟩ := I
  have hs := CC.1
  refine r_aload_n dL_law_756 rfl ?_
  refine r_cV0i cvL_98 (kX8_who g M σ δ CC ) (hs.lt (by decide)) (hs.T 0 rfl) ⟨Nat.le_of_ble_eq_true rfl, Nat.le_of_ble_eq_true rfl⟩ (Nat.le_of_ble_eq_true rfl) ⟨by show k + 0 ≤ 600000; omega, by show sl + 0 ≤ 7302250; omega⟩ dL_law_757 (fun r1 M1 h1 => ?_)
  obtain ⟨f1, q1⟩ := h1
  have hs1 := hs.fr f1
  have RR1 : RA σ δ M1 := RR.fr f1 (by intro a ha; simp [cF] at ha; (try unfold okK); omega)
  have EE1 := E.keep (KC.fr f1 (by intro a ha; simp [cF] at ha; (try unfold okK); omega)) (KR.fr f1 (by intro a ha; simp [cF] at ha; (try unfold okK); omega))
  have CC1 : CA σ δ M1 := CC.fr f1 (by intro a ha; simp [cF] at ha; (try unfold okK); omega)
  refine r_aload_n dL_law_760 rfl ?_
  refine r_cV0i cvL_101 (kX9_who g M1 σ δ RR1 ) (hs1.lt (by decide)) (hs1.T 44 rfl) ⟨Nat.le_of_ble_eq_true rfl, Nat.le_of_ble_eq_true rfl⟩ (Nat.le_of_ble_eq_true rfl) ⟨by show k + 0 ≤ 600000; omega, by show sl + 0 ≤ 7302250; omega⟩ dL_law_761 (fun r2 M2 h2 => ?_)
  obtain ⟨f2, q2⟩ := h2
  have hs2 := hs1.fr f2
  have EE2 := EE1.keep (KC.fr f2 (by intro a ha; simp [cF] at ha; (try unfold okK); omega)) (KR.fr f2 (by intro a ha; simp [cF] at ha; (try unfold okK); omega))
  have CC2 := CC1.fr f2 (by intro a ha; simp [cF] at ha; (try unfold okK); omega)
  have RR2 : RA σ δ M2 := RR1.fr f2 (by intro a ha; simp [cF] at ha; (try unfold okK); omega)
  refine r_icmp_eq 921 dL_law_764 (by decide) (fun c764 => ?_) (fun c764 => ?_)
  · skip
    exact K _ σ _ pg pn tr _ _ ⟨CC2, RR2, EE2⟩ (by omega) (by show k + 0 + 0 ≤ _; omega) (by show sl + 0 + 0 ≤ _; omega)
  · skip
    exact absurd (q1.trans q2.symm) c764
set_option maxHeartbeats 4000000 in
set_option maxRecDepth 100000 in
theorem lc_whom (g : Gx) (x : Cx) (Q : State → Prop) (b L : Nat) (zs : Nat → Int32) (hX : va_X b L zs x.2.2.2.1 x.2.2.2.1.heap) (hb : b < x.2.2.2.1.heap.size) (hg : b < g.1) (hL : L ≤ 2560) (i : Nat) (hi : i + 5 ≤ L) (k sl : Nat) (hk : k + 8 ≤ 600000) (hsl : sl + 24 ≤ 7302250) (σ : Ab) (δ : Dy) (pg : Rw) (pn tr : Nat) (M : Mm) (I : LI σ δ pg pn tr M) (K : ∀ M' σ' δ' pg' pn' tr' k' sl', LI σ' δ' pg' pn' tr' M' → tr' ≤ tr + 1 → k' ≤ k + 8 → sl' ≤ sl + 24 → Vj x g yL_law cL_law 4 (some .boolean) room_1 Q k' sl' M' 921 [(0, some (.ref b)), (1, some (.ref (g.1 + 0))), (2, some (.ref (g.1 + 44))), (3, some (.int (nI i)))] []) : Vj x g yL_law cL_law 4 (some .boolean) room_1 Q k sl M 667 [(0, some (.ref b)), (1, some (.ref (g.1 + 0))), (2, some (.ref (g.1 + 44))), (3, some (.int (nI i)))] [] := by
  obtain ⟨CC, RR, E⟩ := I
  have hs := CC.1
  refine r_aload_n dL_law_667 rfl ?_
  refine r_aload_n dL_law_668 rfl ?_
  refine r_iload_n dL_law_669 rfl ?_
  refine r_iconst (v := 1) dL_law_670 (by decide) ?_
  refine r_iadd dL_law_671 ?_
  refine r_sld hX hb hg (sx (c := 1) (by omega) hL).1 dL_law_672 ?_
  rw [show (nI i + 1).toNatClampNeg = i + 1 from (sx (i := i) (c := 1) (by omega) hL).2]
  refine r_aload_n dL_law_673 rfl ?_
  refine r_iload_n dL_law_674 rfl ?_
  refine r_iconst (v := 2) dL_law_675 (by decide) ?_
  refine r_iadd dL_law_676 ?_
  refine r_sld hX hb hg (sx (c := 2) (by omega) hL).1 dL_law_677 ?_
  rw [show (nI i + 2).toNatClampNeg = i + 2 from (sx (i := i) (c := 2) (by omega) hL).2]
  refine r_aload_n dL_law_678 rfl ?_
  refine r_iload_n dL_law_679 rfl ?_
  refine r_iconst (v := 3) dL_law_680 (by decide) ?_
  refine r_iadd dL_law_681 ?_
  refine r_sld hX hb hg (sx (c := 3) (by omega) hL).1 dL_law_682 ?_
  rw [show (nI i + 3).toNatClampNeg = i + 3 from (sx (i := i) (c := 3) (by omega) hL).2]
  refine r_cV3i cvL_85 (kX8_whom g M σ δ CC (zs (i + 1)) (zs (i + 2)) (zs (i + 3))) (hs.lt (by decide)) (hs.T 0 rfl) ⟨Nat.le_of_ble_eq_true rfl, Nat.le_of_ble_eq_true rfl⟩ (Nat.le_of_ble_eq_true rfl) ⟨by show k + 0 ≤ 600000; omega, by show sl + 0 ≤ 7302250; omega⟩ dL_law_683 (fun r1 M1 h1 => ?_)
  obtain ⟨f1, q1⟩ := h1
  have hs1 := hs.fr f1
  have RR1 : RA σ δ M1 := RR.fr f1 (by intro a ha; simp [cF] at ha; (try unfold okK); omega)
  have EE1 := E.keep (KC.fr f1 (by intro a ha; simp [cF] at ha; (try unfold okK); omega)) (KR.fr f1 (by intro a ha; simp [cF] at ha; (try unfold okK); omega))
  have CC1 : CA σ δ M1 := CC.fr f1 (by intro a ha; simp [cF] at ha; (try unfold okK); omega)
  refine r_aload_n dL_law_686 rfl ?_
  refine r_aload_n dL_law_687 rfl ?_
  refine r_iload_n dL_law_688 rfl ?_
  refine r_iconst (v := 1) dL_law_689 (by decide) ?_
  refine r_iadd dL_law_690 ?_
  refine r_sld hX hb hg (sx (c := 1) (by omega) hL).1 dL_law_691 ?_
  rw [show (nI i + 1).toNatClampNeg = i + 1 from (sx (i := i) (c := 1) (by omega) hL).2]
  refine r_aload_n dL_law_692 rfl ?_
  refine r_iload_n dL_law_693 rfl ?_
  refine r_iconst (v := 2) dL_law_694 (by decide) ?_
  refine r_iadd dL_law_695 ?_
  refine r_sld hX hb hg (sx (c := 2) (by omega) hL).1 dL_law_696 ?_
  rw [show (nI i + 2).toNatClampNeg = i + 2 from (sx (i := i) (c := 2) (by omega) hL).2]
  refine r_aload_n dL_law_697 rfl ?_
  refine r_iload_n dL_law_698 rfl ?_
  refine r_iconst (v := 3) dL_law_699 (by decide) ?_
  refine r_iadd dL_law_700 ?_
  refine r_sld hX hb hg (sx (c := 3) (by omega) hL).1 dL_law_701 ?_
  rw [show (nI i + 3).toNatClampNeg = i + 3 from (sx (i := i) (c := 3) (by omega) hL).2]
  refine r_cV3i cvL_89 (kX9_whom g M1 σ δ RR1 (zs (i + 1)) (zs (i + 2)) (zs (i + 3))) (hs1.lt (by decide)) (hs1.T 44 rfl) ⟨Nat.le_of_ble_eq_true rfl, Nat.le_of_ble_eq_true rfl⟩ (Nat.le_of_ble_eq_true rfl) ⟨by show k + 0 ≤ 600000; omega, by show sl + 0 ≤ 7302250; omega⟩ dL_law_702 (fun r2 M2 h2 => ?_)
  obtain ⟨f2, q2⟩ := h2
  have hs2 := hs1.fr f2
  have EE2 := EE1.keep (KC.fr f2 (by intro a ha; simp [cF] at ha; (try unfold okK); omega)) (KR.fr f2 (by intro a ha; simp [cF] at ha; (try unfold okK); omega))
  have CC2 := CC1.fr f2 (by intro a ha; simp [cF] at ha; (try unfold okK); omega)
  have RR2 : RA σ δ M2 := RR1.fr f2 (by intro a ha; simp [cF] at ha; (try unfold okK); omega)
  refine r_icmp_eq 921 dL_law_705 (by decide) (fun c705 => ?_) (fun c705 => ?_)
  · skip
    exact K _ σ _ pg pn tr _ _ ⟨CC2, RR2, EE2⟩ (by omega) (by show k + 0 + 0 ≤ _; omega) (by show sl + 0 + 0 ≤ _; omega)
  · skip
    exact absurd (q1.trans q2.symm) c705
set_option maxHeartbeats 4000000 in
set_option maxRecDepth 100000 in
theorem lc_chance (g : Gx) (x : Cx) (Q : State → Prop) (b L : Nat) (zs : Nat → Int32) (hX : va_X b L zs x.2.2.2.1 x.2.2.2.1.heap) (hb : b < x.2.2.2.1.heap.size) (hg : b < g.1) (hL : L ≤ 2560) (i : Nat) (hi : i + 5 ≤ L) (k sl : Nat) (hk : k + 8 ≤ 600000) (hsl : sl + 24 ≤ 7302250) (σ : Ab) (δ : Dy) (pg : Rw) (pn tr : Nat) (M : Mm) (I : LI σ δ pg pn tr M) (K : ∀ M' σ' δ' pg' pn' tr' k' sl', LI σ' δ' pg' pn' tr' M' → tr' ≤ tr + 1 → k' ≤ k + 8 → sl' ≤ sl + 24 → Vj x g yL_law cL_law 4 (some .boolean) room_1 Q k' sl' M' 921 [(0, some (.ref b)), (1, some (.ref (g.1 + 0))), (2, some (.ref (g.1 + 44))), (3, some (.int (nI i)))] []) : Vj x g yL_law cL_law 4 (some .boolean) room_1 Q k sl M 613 [(0, some (.ref b)), (1, some (.ref (g.1 + 0))), (2, some (.ref (g.1 + 44))), (3, some (.int (nI i)))] [] := by
  obtain ⟨CC, RR, E⟩ := I
  have hs := CC.1
  refine r_aload_n dL_law_613 rfl ?_
  refine r_aload_n dL_law_614 rfl ?_
  refine r_iload_n dL_law_615 rfl ?_
  refine r_iconst (v := 1) dL_law_616 (by decide) ?_
  refine r_iadd dL_law_617 ?_
  refine r_sld hX hb hg (sx (c := 1) (by omega) hL).1 dL_law_618 ?_
  rw [show (nI i + 1).toNatClampNeg = i + 1 from (sx (i := i) (c := 1) (by omega) hL).2]
  refine r_aload_n dL_law_619 rfl ?_
  refine r_iload_n dL_law_620 rfl ?_
  refine r_iconst (v := 2) dL_law_621 (by decide) ?_
  refine r_iadd dL_law_622 ?_
  refine r_sld hX hb hg (sx (c := 2) (by omega) hL).1 dL_law_623 ?_
  rw [show (nI i + 2).toNatClampNeg = i + 2 from (sx (i := i) (c := 2) (by omega) hL).2]
  refine r_aload_n dL_law_624 rfl ?_
  refine r_iload_n dL_law_625 rfl ?_
  refine r_iconst (v := 3) dL_law_626 (by decide) ?_
  refine r_iadd dL_law_627 ?_
  refine r_sld hX hb hg (sx (c := 3) (by omega) hL).1 dL_law_628 ?_
  rw [show (nI i + 3).toNatClampNeg = i + 3 from (sx (i := i) (c := 3) (by omega) hL).2]
  refine r_aload_n dL_law_629 rfl ?_
  refine r_iload_n dL_law_630 rfl ?_
  refine r_iconst (v := 4) dL_law_631 (by decide) ?_
  refine r_iadd dL_law_632 ?_
  refine r_sld hX hb hg (sx (c := 4) (by omega) hL).1 dL_law_633 ?_
  rw [show (nI i + 4).toNatClampNeg = i + 4 from (sx (i := i) (c := 4) (by omega) hL).2]
  refine r_cV4l cvL_80 (kX8_chance g M σ δ CC (zs (i + 1)) (zs (i + 2)) (zs (i + 3)) (zs (i + 4))) (hs.lt (by decide)) (hs.T 0 rfl) ⟨Nat.le_of_ble_eq_true rfl, Nat.le_of_ble_eq_true rfl⟩ (Nat.le_of_ble_eq_true rfl) ⟨by show k + 0 ≤ 600000; omega, by show sl + 0 ≤ 7302250; omega⟩ dL_law_634 (fun r1 M1 h1 => ?_)
  obtain ⟨f1, q1⟩ := h1
  have hs1 := hs.fr f1
  have RR1 : RA σ δ M1 := RR.fr f1 (by intro a ha; simp [cF] at ha; (try unfold okK); omega)
  have EE1 := E.keep (KC.fr f1 (by intro a ha; simp [cF] at ha; (try unfold okK); omega)) (KR.fr f1 (by intro a ha; simp [cF] at ha; (try unfold okK); omega))
  have CC1 : CA σ δ M1 := CC.fr f1 (by intro a ha; simp [cF] at ha; (try unfold okK); omega)
  refine r_aload_n dL_law_637 rfl ?_
  refine r_aload_n dL_law_638 rfl ?_
  refine r_iload_n dL_law_639 rfl ?_
  refine r_iconst (v := 1) dL_law_640 (by decide) ?_
  refine r_iadd dL_law_641 ?_
  refine r_sld hX hb hg (sx (c := 1) (by omega) hL).1 dL_law_642 ?_
  rw [show (nI i + 1).toNatClampNeg = i + 1 from (sx (i := i) (c := 1) (by omega) hL).2]
  refine r_aload_n dL_law_643 rfl ?_
  refine r_iload_n dL_law_644 rfl ?_
  refine r_iconst (v := 2) dL_law_645 (by decide) ?_
  refine r_iadd dL_law_646 ?_
  refine r_sld hX hb hg (sx (c := 2) (by omega) hL).1 dL_law_647 ?_
  rw [show (nI i + 2).toNatClampNeg = i + 2 from (sx (i := i) (c := 2) (by omega) hL).2]
  refine r_aload_n dL_law_648 rfl ?_
  refine r_iload_n dL_law_649 rfl ?_
  refine r_iconst (v := 3) dL_law_650 (by decide) ?_
  refine r_iadd dL_law_651 ?_
  refine r_sld hX hb hg (sx (c := 3) (by omega) hL).1 dL_law_652 ?_
  rw [show (nI i + 3).toNatClampNeg = i + 3 from (sx (i := i) (c := 3) (by omega) hL).2]
  refine r_aload_n dL_law_653 rfl ?_
  refine r_iload_n dL_law_654 rfl ?_
  refine r_iconst (v := 4) dL_law_655 (by decide) ?_
  refine r_iadd dL_law_656 ?_
  refine r_sld hX hb hg (sx (c := 4) (by omega) hL).1 dL_law_657 ?_
  rw [show (nI i + 4).toNatClampNeg = i + 4 from (sx (i := i) (c := 4) (by omega) hL).2]
  refine r_cV4l cvL_84 (kX9_chance g M1 σ δ RR1 (zs (i + 1)) (zs (i + 2)) (zs (i + 3)) (zs (i + 4))) (hs1.lt (by decide)) (hs1.T 44 rfl) ⟨Nat.le_of_ble_eq_true rfl, Nat.le_of_ble_eq_true rfl⟩ (Nat.le_of_ble_eq_true rfl) ⟨by show k + 0 ≤ 600000; omega, by show sl + 0 ≤ 7302250; omega⟩ dL_law_658 (fun r2 M2 h2 => ?_)
  obtain ⟨f2, q2⟩ := h2
  have hs2 := hs1.fr f2
  have EE2 := EE1.keep (KC.fr f2 (by intro a ha; simp [cF] at ha; (try unfold okK); omega)) (KR.fr f2 (by intro a ha; simp [cF] at ha; (try unfold okK); omega))
  have CC2 := CC1.fr f2 (by intro a ha; simp [cF] at ha; (try unfold okK); omega)
  have RR2 : RA σ δ M2 := RR1.fr f2 (by intro a ha; simp [cF] at ha; (try unfold okK); omega)
  refine r_lcmp dL_law_661 ?_
  refine r_if_eq 921 dL_law_662 (by decide) (fun c662 => ?_) (fun c662 => ?_)
  · skip
    exact K _ σ _ pg pn tr _ _ ⟨CC2, RR2, EE2⟩ (by omega) (by show k + 0 + 0 ≤ _; omega) (by show sl + 0 + 0 ≤ _; omega)
  · skip
    exact absurd (lgc0.mpr (q1.trans q2.symm)) c662
set_option maxHeartbeats 4000000 in
set_option maxRecDepth 100000 in
theorem lc_months (g : Gx) (x : Cx) (Q : State → Prop) (b L : Nat) (zs : Nat → Int32) (hX : va_X b L zs x.2.2.2.1 x.2.2.2.1.heap) (hb : b < x.2.2.2.1.heap.size) (hg : b < g.1) (hL : L ≤ 2560) (i : Nat) (hi : i + 5 ≤ L) (k sl : Nat) (hk : k + 8 ≤ 600000) (hsl : sl + 24 ≤ 7302250) (σ : Ab) (δ : Dy) (pg : Rw) (pn tr : Nat) (M : Mm) (I : LI σ δ pg pn tr M) (K : ∀ M' σ' δ' pg' pn' tr' k' sl', LI σ' δ' pg' pn' tr' M' → tr' ≤ tr + 1 → k' ≤ k + 8 → sl' ≤ sl + 24 → Vj x g yL_law cL_law 4 (some .boolean) room_1 Q k' sl' M' 921 [(0, some (.ref b)), (1, some (.ref (g.1 + 0))), (2, some (.ref (g.1 + 44))), (3, some (.int (nI i)))] []) : Vj x g yL_law cL_law 4 (some .boolean) room_1 Q k sl M 815 [(0, some (.ref b)), (1, some (.ref (g.1 + 0))), (2, some (.ref (g.1 + 44))), (3, some (.int (nI i)))] [] := by
  obtain ⟨CC, RR, E⟩ := I
  have hs := CC.1
  refine r_aload_n dL_law_815 rfl ?_
  refine r_aload_n dL_law_816 rfl ?_
  refine r_iload_n dL_law_817 rfl ?_
  refine r_iconst (v := 1) dL_law_818 (by decide) ?_
  refine r_iadd dL_law_819 ?_
  refine r_sld hX hb hg (sx (c := 1) (by omega) hL).1 dL_law_820 ?_
  rw [show (nI i + 1).toNatClampNeg = i + 1 from (sx (i := i) (c := 1) (by omega) hL).2]
  refine r_aload_n dL_law_821 rfl ?_
  refine r_iload_n dL_law_822 rfl ?_
  refine r_iconst (v := 2) dL_law_823 (by decide) ?_
  refine r_iadd dL_law_824 ?_
  refine r_sld hX hb hg (sx (c := 2) (by omega) hL).1 dL_law_825 ?_
  rw [show (nI i + 2).toNatClampNeg = i + 2 from (sx (i := i) (c := 2) (by omega) hL).2]
  refine r_aload_n dL_law_826 rfl ?_
  refine r_iload_n dL_law_827 rfl ?_
  refine r_iconst (v := 3) dL_law_828 (by decide) ?_
  refine r_iadd dL_law_829 ?_
  refine r_sld hX hb hg (sx (c := 3) (by omega) hL).1 dL_law_830 ?_
  rw [show (nI i + 3).toNatClampNeg = i + 3 from (sx (i := i) (c := 3) (by omega) hL).2]
  refine r_cV3i cvL_110 (kX8_months g M σ δ CC (zs (i + 1)) (zs (i + 2)) (zs (i + 3))) (hs.lt (by decide)) (hs.T 0 rfl) ⟨Nat.le_of_ble_eq_true rfl, Nat.le_of_ble_eq_true rfl⟩ (Nat.le_of_ble_eq_true rfl) ⟨by show k + 0 ≤ 600000; omega, by show sl + 0 ≤ 7302250; omega⟩ dL_law_831 (fun r1 M1 h1 => ?_)
  obtain ⟨f1, q1⟩ := h1
  have hs1 := hs.fr f1
  have RR1 : RA σ δ M1 := RR.fr f1 (by intro a ha; simp [cF] at ha; (try unfold okK); omega)
  have EE1 := E.keep (KC.fr f1 (by intro a ha; simp [cF] at ha; (try unfold okK); omega)) (KR.fr f1 (by intro a ha; simp [cF] at ha; (try unfold okK); omega))
  have CC1 : CA σ δ M1 := CC.fr f1 (by intro a ha; simp [cF] at ha; (try unfold okK); omega)
  refine r_aload_n dL_law_834 rfl ?_
  refine r_aload_n dL_law_835 rfl ?_
  refine r_iload_n dL_law_836 rfl ?_
  refine r_iconst (v := 1) dL_law_837 (by decide) ?_
  refine r_iadd dL_law_838 ?_
  refine r_sld hX hb hg (sx (c := 1) (by omega) hL).1 dL_law_839 ?_
  rw [show (nI i + 1).toNatClampNeg = i + 1 from (sx (i := i) (c := 1) (by omega) hL).2]
  refine r_aload_n dL_law_840 rfl ?_
  refine r_iload_n dL_law_841 rfl ?_
  refine r_iconst (v := 2) dL_law_842 (by decide) ?_
  refine r_iadd dL_law_843 ?_
  refine r_sld hX hb hg (sx (c := 2) (by omega) hL).1 dL_law_844 ?_
  rw [show (nI i + 2).toNatClampNeg = i + 2 from (sx (i := i) (c := 2) (by omega) hL).2]
  refine r_aload_n dL_law_845 rfl ?_
  refine r_iload_n dL_law_846 rfl ?_
  refine r_iconst (v := 3) dL_law_847 (by decide) ?_
  refine r_iadd dL_law_848 ?_
  refine r_sld hX hb hg (sx (c := 3) (by omega) hL).1 dL_law_849 ?_
  rw [show (nI i + 3).toNatClampNeg = i + 3 from (sx (i := i) (c := 3) (by omega) hL).2]
  refine r_cV3i cvL_113 (kX9_months g M1 σ δ RR1 (zs (i + 1)) (zs (i + 2)) (zs (i + 3))) (hs1.lt (by decide)) (hs1.T 44 rfl) ⟨Nat.le_of_ble_eq_true rfl, Nat.le_of_ble_eq_true rfl⟩ (Nat.le_of_ble_eq_true rfl) ⟨by show k + 0 ≤ 600000; omega, by show sl + 0 ≤ 7302250; omega⟩ dL_law_850 (fun r2 M2 h2 => ?_)
  obtain ⟨f2, q2, e2⟩ := h2
  have hs2 := hs1.fr f2
  have EE2 := EE1.keep (KC.fr f2 (by intro a ha; simp [cF] at ha; (try unfold okK); omega)) (KR.f44 f2 (by intro a ha; simp [cF] at ha; (try unfold okK); omega) (fun k hk => e2 k (by omega)))
  have CC2 := CC1.fr f2 (by intro a ha; simp [cF] at ha; (try unfold okK); omega)
  have RR2 : RA σ δ M2 := RR1.f44 f2 (by intro a ha; simp [cF] at ha; (try unfold okK); omega) (fun k hk => e2 k (by omega))
  refine r_icmp_eq 921 dL_law_853 (by decide) (fun c853 => ?_) (fun c853 => ?_)
  · skip
    exact K _ σ _ pg pn tr _ _ ⟨CC2, RR2, EE2⟩ (by omega) (by show k + 0 + 0 ≤ _; omega) (by show sl + 0 + 0 ≤ _; omega)
  · skip
    exact absurd (q1.trans q2.symm) c853
set_option maxHeartbeats 4000000 in
set_option maxRecDepth 100000 in
theorem lc_lock (g : Gx) (x : Cx) (Q : State → Prop) (b L : Nat) (zs : Nat → Int32) (hX : va_X b L zs x.2.2.2.1 x.2.2.2.1.heap) (hb : b < x.2.2.2.1.heap.size) (hg : b < g.1) (hL : L ≤ 2560) (i : Nat) (hi : i + 5 ≤ L) (k sl : Nat) (hk : k + 8 ≤ 600000) (hsl : sl + 24 ≤ 7302250) (σ : Ab) (δ : Dy) (pg : Rw) (pn tr : Nat) (M : Mm) (I : LI σ δ pg pn tr M) (K : ∀ M' σ' δ' pg' pn' tr' k' sl', LI σ' δ' pg' pn' tr' M' → tr' ≤ tr + 1 → k' ≤ k + 8 → sl' ≤ sl + 24 → Vj x g yL_law cL_law 4 (some .boolean) room_1 Q k' sl' M' 921 [(0, some (.ref b)), (1, some (.ref (g.1 + 0))), (2, some (.ref (g.1 + 44))), (3, some (.int (nI i)))] []) : Vj x g yL_law cL_law 4 (some .boolean) room_1 Q k sl M 396 [(0, some (.ref b)), (1, some (.ref (g.1 + 0))), (2, some (.ref (g.1 + 44))), (3, some (.int (nI i)))] [] := by
  obtain ⟨CC, RR, E⟩ := I
  have hs := CC.1
  refine r_aload_n dL_law_396 rfl ?_
  refine r_aload_n dL_law_397 rfl ?_
  refine r_iload_n dL_law_398 rfl ?_
  refine r_iconst (v := 1) dL_law_399 (by decide) ?_
  refine r_iadd dL_law_400 ?_
  refine r_sld hX hb hg (sx (c := 1) (by omega) hL).1 dL_law_401 ?_
  rw [show (nI i + 1).toNatClampNeg = i + 1 from (sx (i := i) (c := 1) (by omega) hL).2]
  refine r_aload_n dL_law_402 rfl ?_
  refine r_iload_n dL_law_403 rfl ?_
  refine r_iconst (v := 2) dL_law_404 (by decide) ?_
  refine r_iadd dL_law_405 ?_
  refine r_sld hX hb hg (sx (c := 2) (by omega) hL).1 dL_law_406 ?_
  rw [show (nI i + 2).toNatClampNeg = i + 2 from (sx (i := i) (c := 2) (by omega) hL).2]
  refine r_cV2i cvL_51 (kX8_lock g M σ δ CC (zs (i + 1)) (zs (i + 2))) (hs.lt (by decide)) (hs.T 0 rfl) ⟨Nat.le_of_ble_eq_true rfl, Nat.le_of_ble_eq_true rfl⟩ (Nat.le_of_ble_eq_true rfl) ⟨by show k + 0 ≤ 600000; omega, by show sl + 0 ≤ 7302250; omega⟩ dL_law_407 (fun r1 M1 h1 => ?_)
  obtain ⟨f1, q1, d1⟩ := h1
  have hs1 := hs.fr f1
  have RR1 : RA σ δ M1 := RR.fr f1 (by intro a ha; simp [cF] at ha; (try unfold okK); omega)
  have EE1 := E.keep (KC.fr f1 (by intro a ha; simp [cF] at ha; (try unfold okK); omega)) (KR.fr f1 (by intro a ha; simp [cF] at ha; (try unfold okK); omega))
  refine r_aload_n dL_law_410 rfl ?_
  refine r_aload_n dL_law_411 rfl ?_
  refine r_iload_n dL_law_412 rfl ?_
  refine r_iconst (v := 1) dL_law_413 (by decide) ?_
  refine r_iadd dL_law_414 ?_
  refine r_sld hX hb hg (sx (c := 1) (by omega) hL).1 dL_law_415 ?_
  rw [show (nI i + 1).toNatClampNeg = i + 1 from (sx (i := i) (c := 1) (by omega) hL).2]
  refine r_aload_n dL_law_416 rfl ?_
  refine r_iload_n dL_law_417 rfl ?_
  refine r_iconst (v := 2) dL_law_418 (by decide) ?_
  refine r_iadd dL_law_419 ?_
  refine r_sld hX hb hg (sx (c := 2) (by omega) hL).1 dL_law_420 ?_
  rw [show (nI i + 2).toNatClampNeg = i + 2 from (sx (i := i) (c := 2) (by omega) hL).2]
  refine r_cV2i cvL_54 (kX9_lock g M1 σ δ RR1 (zs (i + 1)) (zs (i + 2))) (hs1.lt (by decide)) (hs1.T 44 rfl) ⟨Nat.le_of_ble_eq_true rfl, Nat.le_of_ble_eq_true rfl⟩ (Nat.le_of_ble_eq_true rfl) ⟨by show k + 0 ≤ 600000; omega, by show sl + 0 ≤ 7302250; omega⟩ dL_law_421 (fun r2 M2 h2 => ?_)
  obtain ⟨f2, q2, d2⟩ := h2
  have hs2 := hs1.fr f2
  have EE2 := EE1.keep (KC.fr f2 (by intro a ha; simp [cF] at ha; (try unfold okK); omega)) (KR.fr f2 (by intro a ha; simp [cF] at ha; (try unfold okK); omega))
  have CC2 := d1.fr f2 (by intro a ha; simp [cF] at ha; (try unfold okK); omega)
  have RR2 := d2
  refine r_icmp_eq 921 dL_law_424 (by decide) (fun c424 => ?_) (fun c424 => ?_)
  · skip
    exact K _ σ _ pg pn tr _ _ ⟨CC2, RR2, EE2⟩ (by omega) (by show k + 0 + 0 ≤ _; omega) (by show sl + 0 + 0 ≤ _; omega)
  · skip
    exact absurd (q1.trans q2.symm) c424
set_option maxHeartbeats 4000000 in
set_option maxRecDepth 100000 in
theorem lc_tenths (g : Gx) (x : Cx) (Q : State → Prop) (b L : Nat) (zs : Nat → Int32) (hX : va_X b L zs x.2.2.2.1 x.2.2.2.1.heap) (hb : b < x.2.2.2.1.heap.size) (hg : b < g.1) (hL : L ≤ 2560) (i : Nat) (hi : i + 5 ≤ L) (k sl : Nat) (hk : k + 8 ≤ 600000) (hsl : sl + 24 ≤ 7302250) (σ : Ab) (δ : Dy) (pg : Rw) (pn tr : Nat) (M : Mm) (I : LI σ δ pg pn tr M) (K : ∀ M' σ' δ' pg' pn' tr' k' sl', LI σ' δ' pg' pn' tr' M' → tr' ≤ tr + 1 → k' ≤ k + 8 → sl' ≤ sl + 24 → Vj x g yL_law cL_law 4 (some .boolean) room_1 Q k' sl' M' 921 [(0, some (.ref b)), (1, some (.ref (g.1 + 0))), (2, some (.ref (g.1 + 44))), (3, some (.int (nI i)))] []) : Vj x g yL_law cL_law 4 (some .boolean) room_1 Q k sl M 363 [(0, some (.ref b)), (1, some (.ref (g.1 + 0))), (2, some (.ref (g.1 + 44))), (3, some (.int (nI i)))] [] := by
  obtain ⟨CC, RR, E⟩ := I
  have hs := CC.1
  refine r_aload_n dL_law_363 rfl ?_
  refine r_aload_n dL_law_364 rfl ?_
  refine r_iload_n dL_law_365 rfl ?_
  refine r_iconst (v := 1) dL_law_366 (by decide) ?_
  refine r_iadd dL_law_367 ?_
  refine r_sld hX hb hg (sx (c := 1) (by omega) hL).1 dL_law_368 ?_
  rw [show (nI i + 1).toNatClampNeg = i + 1 from (sx (i := i) (c := 1) (by omega) hL).2]
  refine r_aload_n dL_law_369 rfl ?_
  refine r_iload_n dL_law_370 rfl ?_
  refine r_iconst (v := 2) dL_law_371 (by decide) ?_
  refine r_iadd dL_law_372 ?_
  refine r_sld hX hb hg (sx (c := 2) (by omega) hL).1 dL_law_373 ?_
  rw [show (nI i + 2).toNatClampNeg = i + 2 from (sx (i := i) (c := 2) (by omega) hL).2]
  refine r_cV2i cvL_47 (kX8_tenths g M σ δ CC (zs (i + 1)) (zs (i + 2))) (hs.lt (by decide)) (hs.T 0 rfl) ⟨Nat.le_of_ble_eq_true rfl, Nat.le_of_ble_eq_true rfl⟩ (Nat.le_of_ble_eq_true rfl) ⟨by show k + 0 ≤ 600000; omega, by show sl + 0 ≤ 7302250; omega⟩ dL_law_374 (fun r1 M1 h1 => ?_)
  obtain ⟨f1, q1, d1⟩ := h1
  have hs1 := hs.fr f1
  have RR1 : RA σ δ M1 := RR.fr f1 (by intro a ha; simp [cF] at ha; (try unfold okK); omega)
  have EE1 := E.keep (KC.fr f1 (by intro a ha; simp [cF] at ha; (try unfold okK); omega)) (KR.fr f1 (by intro a ha; simp [cF] at ha; (try unfold okK); omega))
  refine r_aload_n dL_law_377 rfl ?_
  refine r_aload_n dL_law_378 rfl ?_
  refine r_iload_n dL_law_379 rfl ?_
  refine r_iconst (v := 1) dL_law_380 (by decide) ?_
  refine r_iadd dL_law_381 ?_
  refine r_sld hX hb hg (sx (c := 1) (by omega) hL).1 dL_law_382 ?_
  rw [show (nI i + 1).toNatClampNeg = i + 1 from (sx (i := i) (c := 1) (by omega) hL).2]
  refine r_aload_n dL_law_383 rfl ?_
  refine r_iload_n dL_law_384 rfl ?_
  refine r_iconst (v := 2) dL_law_385 (by decide) ?_
  refine r_iadd dL_law_386 ?_
  refine r_sld hX hb hg (sx (c := 2) (by omega) hL).1 dL_law_387 ?_
  rw [show (nI i + 2).toNatClampNeg = i + 2 from (sx (i := i) (c := 2) (by omega) hL).2]
  refine r_cV2i cvL_50 (kX9_tenths g M1 σ δ RR1 (zs (i + 1)) (zs (i + 2))) (hs1.lt (by decide)) (hs1.T 44 rfl) ⟨Nat.le_of_ble_eq_true rfl, Nat.le_of_ble_eq_true rfl⟩ (Nat.le_of_ble_eq_true rfl) ⟨by show k + 0 ≤ 600000; omega, by show sl + 0 ≤ 7302250; omega⟩ dL_law_388 (fun r2 M2 h2 => ?_)
  obtain ⟨f2, q2, d2⟩ := h2
  have hs2 := hs1.fr f2
  have EE2 := EE1.keep (KC.fr f2 (by intro a ha; simp [cF] at ha; (try unfold okK); omega)) (KR.fr f2 (by intro a ha; simp [cF] at ha; (try unfold okK); omega))
  have CC2 := d1.fr f2 (by intro a ha; simp [cF] at ha; (try unfold okK); omega)
  have RR2 := d2
  refine r_icmp_eq 921 dL_law_391 (by decide) (fun c391 => ?_) (fun c391 => ?_)
  · skip
    exact K _ σ _ pg pn tr _ _ ⟨CC2, RR2, EE2⟩ (by omega) (by show k + 0 + 0 ≤ _; omega) (by show sl + 0 + 0 ≤ _; omega)
  · skip
    exact absurd (q1.trans q2.symm) c391
set_option maxHeartbeats 4000000 in
set_option maxRecDepth 100000 in
theorem lc_seen (g : Gx) (x : Cx) (Q : State → Prop) (b L : Nat) (zs : Nat → Int32) (hX : va_X b L zs x.2.2.2.1 x.2.2.2.1.heap) (hb : b < x.2.2.2.1.heap.size) (hg : b < g.1) (hL : L ≤ 2560) (i : Nat) (hi : i + 5 ≤ L) (k sl : Nat) (hk : k + 8 ≤ 600000) (hsl : sl + 24 ≤ 7302250) (σ : Ab) (δ : Dy) (pg : Rw) (pn tr : Nat) (M : Mm) (I : LI σ δ pg pn tr M) (K : ∀ M' σ' δ' pg' pn' tr' k' sl', LI σ' δ' pg' pn' tr' M' → tr' ≤ tr + 1 → k' ≤ k + 8 → sl' ≤ sl + 24 → Vj x g yL_law cL_law 4 (some .boolean) room_1 Q k' sl' M' 921 [(0, some (.ref b)), (1, some (.ref (g.1 + 0))), (2, some (.ref (g.1 + 44))), (3, some (.int (nI i)))] []) : Vj x g yL_law cL_law 4 (some .boolean) room_1 Q k sl M 723 [(0, some (.ref b)), (1, some (.ref (g.1 + 0))), (2, some (.ref (g.1 + 44))), (3, some (.int (nI i)))] [] := by
  obtain ⟨CC, RR, E⟩ := I
  have hs := CC.1
  refine r_aload_n dL_law_723 rfl ?_
  refine r_aload_n dL_law_724 rfl ?_
  refine r_iload_n dL_law_725 rfl ?_
  refine r_iconst (v := 1) dL_law_726 (by decide) ?_
  refine r_iadd dL_law_727 ?_
  refine r_sld hX hb hg (sx (c := 1) (by omega) hL).1 dL_law_728 ?_
  rw [show (nI i + 1).toNatClampNeg = i + 1 from (sx (i := i) (c := 1) (by omega) hL).2]
  refine r_aload_n dL_law_729 rfl ?_
  refine r_iload_n dL_law_730 rfl ?_
  refine r_iconst (v := 2) dL_law_731 (by decide) ?_
  refine r_iadd dL_law_732 ?_
  refine r_sld hX hb hg (sx (c := 2) (by omega) hL).1 dL_law_733 ?_
  rw [show (nI i + 2).toNatClampNeg = i + 2 from (sx (i := i) (c := 2) (by omega) hL).2]
  refine r_cV2i cvL_94 (kX8_seen g M σ δ CC (zs (i + 1)) (zs (i + 2))) (hs.lt (by decide)) (hs.T 0 rfl) ⟨Nat.le_of_ble_eq_true rfl, Nat.le_of_ble_eq_true rfl⟩ (Nat.le_of_ble_eq_true rfl) ⟨by show k + 0 ≤ 600000; omega, by show sl + 0 ≤ 7302250; omega⟩ dL_law_734 (fun r1 M1 h1 => ?_)
  obtain ⟨f1, q1, d1⟩ := h1
  have hs1 := hs.fr f1
  have RR1 : RA σ δ M1 := RR.fr f1 (by intro a ha; simp [cF] at ha; (try unfold okK); omega)
  have EE1 := E.keep (KC.fr f1 (by intro a ha; simp [cF] at ha; (try unfold okK); omega)) (KR.fr f1 (by intro a ha; simp [cF] at ha; (try unfold okK); omega))
  refine r_aload_n dL_law_737 rfl ?_
  refine r_aload_n dL_law_738 rfl ?_
  refine r_iload_n dL_law_739 rfl ?_
  refine r_iconst (v := 1) dL_law_740 (by decide) ?_
  refine r_iadd dL_law_741 ?_
  refine r_sld hX hb hg (sx (c := 1) (by omega) hL).1 dL_law_742 ?_
  rw [show (nI i + 1).toNatClampNeg = i + 1 from (sx (i := i) (c := 1) (by omega) hL).2]
  refine r_aload_n dL_law_743 rfl ?_
  refine r_iload_n dL_law_744 rfl ?_
  refine r_iconst (v := 2) dL_law_745 (by decide) ?_
  refine r_iadd dL_law_746 ?_
  refine r_sld hX hb hg (sx (c := 2) (by omega) hL).1 dL_law_747 ?_
  rw [show (nI i + 2).toNatClampNeg = i + 2 from (sx (i := i) (c := 2) (by omega) hL).2]
  refine r_cV2i cvL_97 (kX9_seen g M1 σ δ RR1 (zs (i + 1)) (zs (i + 2))) (hs1.lt (by decide)) (hs1.T 44 rfl) ⟨Nat.le_of_ble_eq_true rfl, Nat.le_of_ble_eq_true rfl⟩ (Nat.le_of_ble_eq_true rfl) ⟨by show k + 0 ≤ 600000; omega, by show sl + 0 ≤ 7302250; omega⟩ dL_law_748 (fun r2 M2 h2 => ?_)
  obtain ⟨f2, q2, d2⟩ := h2
  have hs2 := hs1.fr f2
  have EE2 := EE1.keep (KC.fr f2 (by intro a ha; simp [cF] at ha; (try unfold okK); omega)) (KR.fr f2 (by intro a ha; simp [cF] at ha; (try unfold okK); omega))
  have CC2 := d1.fr f2 (by intro a ha; simp [cF] at ha; (try unfold okK); omega)
  have RR2 := d2
  refine r_icmp_eq 921 dL_law_751 (by decide) (fun c751 => ?_) (fun c751 => ?_)
  · skip
    exact K _ σ _ pg pn tr _ _ ⟨CC2, RR2, EE2⟩ (by omega) (by show k + 0 + 0 ≤ _; omega) (by show sl + 0 + 0 ≤ _; omega)
  · skip
    exact absurd (q1.trans q2.symm) c751
set_option maxHeartbeats 4000000 in
set_option maxRecDepth 100000 in
theorem lc_month (g : Gx) (x : Cx) (Q : State → Prop) (b L : Nat) (zs : Nat → Int32) (hX : va_X b L zs x.2.2.2.1 x.2.2.2.1.heap) (hb : b < x.2.2.2.1.heap.size) (hg : b < g.1) (hL : L ≤ 2560) (i : Nat) (hi : i + 5 ≤ L) (k sl : Nat) (hk : k + 8 ≤ 600000) (hsl : sl + 24 ≤ 7302250) (σ : Ab) (δ : Dy) (pg : Rw) (pn tr : Nat) (M : Mm) (I : LI σ δ pg pn tr M) (K : ∀ M' σ' δ' pg' pn' tr' k' sl', LI σ' δ' pg' pn' tr' M' → tr' ≤ tr + 1 → k' ≤ k + 8 → sl' ≤ sl + 24 → Vj x g yL_law cL_law 4 (some .boolean) room_1 Q k' sl' M' 921 [(0, some (.ref b)), (1, some (.ref (g.1 + 0))), (2, some (.ref (g.1 + 44))), (3, some (.int (nI i)))] []) : Vj x g yL_law cL_law 4 (some .boolean) room_1 Q k sl M 567 [(0, some (.ref b)), (1, some (.ref (g.1 + 0))), (2, some (.ref (g.1 + 44))), (3, some (.int (nI i)))] [] := by
  obtain ⟨CC, RR, E⟩ := I
  have hs := CC.1
  refine r_aload_n dL_law_567 rfl ?_
  refine r_cV0i cvL_72 (kX8_month g M σ δ CC ) (hs.lt (by decide)) (hs.T 0 rfl) ⟨Nat.le_of_ble_eq_true rfl, Nat.le_of_ble_eq_true rfl⟩ (Nat.le_of_ble_eq_true rfl) ⟨by show k + 0 ≤ 600000; omega, by show sl + 0 ≤ 7302250; omega⟩ dL_law_568 (fun r1 M1 h1 => ?_)
  obtain ⟨f1, q1, d1⟩ := h1
  have hs1 := hs.fr f1
  have RR1 : RA σ δ M1 := RR.fr f1 (by intro a ha; simp [cF] at ha; (try unfold okK); omega)
  have EE1 := E.keep (KC.fr f1 (by intro a ha; simp [cF] at ha; (try unfold okK); omega)) (KR.fr f1 (by intro a ha; simp [cF] at ha; (try unfold okK); omega))
  refine r_aload_n dL_law_571 rfl ?_
  refine r_cV0i cvL_75 (kX9_month g M1 σ δ RR1 ) (hs1.lt (by decide)) (hs1.T 44 rfl) ⟨Nat.le_of_ble_eq_true rfl, Nat.le_of_ble_eq_true rfl⟩ (Nat.le_of_ble_eq_true rfl) ⟨by show k + 0 ≤ 600000; omega, by show sl + 0 ≤ 7302250; omega⟩ dL_law_572 (fun r2 M2 h2 => ?_)
  obtain ⟨f2, q2, d2, e2⟩ := h2
  have hs2 := hs1.fr f2
  have EE2 := EE1.keep (KC.fr f2 (by intro a ha; simp [cF] at ha; (try unfold okK); omega)) (KR.f44 f2 (by intro a ha; simp [cF] at ha; (try unfold okK); omega) (fun k hk => e2 k (by omega) (by omega)))
  have CC2 := d1.fr f2 (by intro a ha; simp [cF] at ha; (try unfold okK); omega)
  have RR2 := d2
  refine r_icmp_eq 921 dL_law_575 (by decide) (fun c575 => ?_) (fun c575 => ?_)
  · skip
    exact K _ σ _ pg pn tr _ _ ⟨CC2, RR2, EE2⟩ (by omega) (by show k + 0 + 0 ≤ _; omega) (by show sl + 0 + 0 ≤ _; omega)
  · skip
    exact absurd (q1.trans q2.symm) c575
