theorem IMs.kp {σ : Ab} {tr : Nat} {M M' : Mm} (h : IMs σ tr M) (a : ∀ k, 15 ≤ k → k ≤ 17 → mI M' 0 k = mI M 0 k) (b : ∀ c, 18 ≤ c → c ≤ 24 → mI M' c = mI M c) (c : ∀ k, 22 ≤ k → k ≤ 27 → mI M' 44 k = mI M 44 k) (d : mI M' 56 = mI M 56 ∧ mI M' 57 = mI M 57 ∧ mI M' 58 = mI M 58) : IMs σ tr M' := by
  unfold IMs
  rw [a 15 (by decide) (by decide), a 16 (by decide) (by decide), a 17 (by decide) (by decide), c 22 (by decide) (by decide), c 23 (by decide) (by decide)]
  rcases h with h | ⟨h, kr, ks, h1, h2, h3, h4, h5, h6, h7⟩
  · exact Or.inl h
  · refine Or.inr ⟨h, kr, ks, h1, h2, h3, h4, h5, h6, fun e1 e2 => ?_⟩
    obtain ⟨δ2, c1, c2, c3⟩ := h7 e1 e2
    obtain ⟨x1, x2, x3, x4, x5, x6, x7⟩ := c2
    exact ⟨δ2, c1.keep (fun k hk => b (18 + k) (by omega) (by omega)), ⟨by rw [d.2.2]; exact x1, by rw [d.1]; exact x2, by rw [c 26 (by decide) (by decide)]; exact x3, by rw [c 27 (by decide) (by decide)]; exact x4, by rw [d.2.1]; exact x5, by rw [c 24 (by decide) (by decide)]; exact x6, by rw [c 25 (by decide) (by decide)]; exact x7⟩, c3⟩
set_option maxHeartbeats 4000000 in
set_option maxRecDepth 100000 in
theorem lc_fewest (g : Gx) (x : Cx) (Q : State → Prop) (b L : Nat) (zs : Nat → Int32) (hX : va_X b L zs x.2.2.2.1 x.2.2.2.1.heap) (hb : b < x.2.2.2.1.heap.size) (hg : b < g.1) (hL : L ≤ 2560) (i : Nat) (hi : i + 5 ≤ L) (k sl : Nat) (hk : k + 8 ≤ 600000) (hsl : sl + 24 ≤ 7302250) (σ : Ab) (δ : Dy) (pg : Rw) (pn tr : Nat) (M : Mm) (I : LI σ δ pg pn tr M) (K : ∀ M' σ' δ' pg' pn' tr' k' sl', LI σ' δ' pg' pn' tr' M' → tr' ≤ tr + 1 → k' ≤ k + 8 → sl' ≤ sl + 24 → Vj x g yL_law cL_law 4 (some .boolean) room_1 Q k' sl' M' 921 [(0, some (.ref b)), (1, some (.ref (g.1 + 0))), (2, some (.ref (g.1 + 44))), (3, some (.int (nI i)))] []) : Vj x g yL_law cL_law 4 (some .boolean) room_1 Q k sl M 802 [(0, some (.ref b)), (1, some (.ref (g.1 + 0))), (2, some (.ref (g.1 + 44))), (3, some (.int (nI i)))] [] := by
  obtain ⟨CC, RR, E⟩ := I
  have hs := CC.1
  refine r_aload_n dL_law_802 rfl ?_
  refine r_cV0i cvL_106 (kX8_fewest g M σ δ CC) (hs.lt (by decide)) (hs.T 0 rfl) ⟨Nat.le_of_ble_eq_true rfl, Nat.le_of_ble_eq_true rfl⟩ (Nat.le_of_ble_eq_true rfl) ⟨by show k + 0 ≤ 600000; omega, by show sl + 0 ≤ 7302250; omega⟩ dL_law_803 (fun r1 M1 h1 => ?_)
  obtain ⟨f1, q1⟩ := h1
  have hs1 := hs.fr f1
  have RR1 : RA σ δ M1 := RR.fr f1 (by intro a ha; simp [cF] at ha; (try unfold okK); omega)
  have EE1 := E.keep (KC.fr f1 (by intro a ha; simp [cF] at ha; (try unfold okK); omega)) (KR.fr f1 (by intro a ha; simp [cF] at ha; (try unfold okK); omega))
  have CC1 : CA σ δ M1 := CC.fr f1 (by intro a ha; simp [cF] at ha; (try unfold okK); omega)
  refine r_aload_n dL_law_806 rfl ?_
  refine r_cV0i cvL_109 (kX9_fewest g M1 σ δ RR1) (hs1.lt (by decide)) (hs1.T 44 rfl) ⟨Nat.le_of_ble_eq_true rfl, Nat.le_of_ble_eq_true rfl⟩ (Nat.le_of_ble_eq_true rfl) ⟨by show k + 0 ≤ 600000; omega, by show sl + 0 ≤ 7302250; omega⟩ dL_law_807 (fun r2 M2 h2 => ?_)
  obtain ⟨f2, q2⟩ := h2
  have hs2 := hs1.fr f2
  have EE2 := EE1.keep (KC.fr f2 (by intro a ha; simp [cF] at ha; (try unfold okK); omega)) (KR.fr f2 (by intro a ha; simp [cF] at ha; (try unfold okK); omega))
  have CC2 := CC1.fr f2 (by intro a ha; simp [cF] at ha; (try unfold okK); omega)
  have RR2 : RA σ δ M2 := RR1.fr f2 (by intro a ha; simp [cF] at ha; (try unfold okK); omega)
  refine r_icmp_eq 921 dL_law_810 (by decide) (fun c810 => ?_) (fun c810 => ?_)
  · skip
    exact K _ σ δ pg pn tr _ _ ⟨CC2, RR2, EE2⟩ (by omega) (by show k + 0 + 0 ≤ _; omega) (by show sl + 0 + 0 ≤ _; omega)
  · skip
    exact absurd (few_eq CC.2.1 CC.2.2.1 q1 q2) c810
set_option maxHeartbeats 4000000 in
set_option maxRecDepth 100000 in
theorem lc_digest (g : Gx) (x : Cx) (Q : State → Prop) (b L : Nat) (zs : Nat → Int32) (hX : va_X b L zs x.2.2.2.1 x.2.2.2.1.heap) (hb : b < x.2.2.2.1.heap.size) (hg : b < g.1) (hL : L ≤ 2560) (i : Nat) (hi : i + 5 ≤ L) (k sl : Nat) (hk : k + 8 ≤ 600000) (hsl : sl + 24 ≤ 7302250) (σ : Ab) (δ : Dy) (pg : Rw) (pn tr : Nat) (M : Mm) (I : LI σ δ pg pn tr M) (K : ∀ M' σ' δ' pg' pn' tr' k' sl', LI σ' δ' pg' pn' tr' M' → tr' ≤ tr + 1 → k' ≤ k + 8 → sl' ≤ sl + 24 → Vj x g yL_law cL_law 4 (some .boolean) room_1 Q k' sl' M' 921 [(0, some (.ref b)), (1, some (.ref (g.1 + 0))), (2, some (.ref (g.1 + 44))), (3, some (.int (nI i)))] []) : Vj x g yL_law cL_law 4 (some .boolean) room_1 Q k sl M 907 [(0, some (.ref b)), (1, some (.ref (g.1 + 0))), (2, some (.ref (g.1 + 44))), (3, some (.int (nI i)))] [] := by
  obtain ⟨CC, RR, E⟩ := I
  have hs := CC.1
  refine r_aload_n dL_law_907 rfl ?_
  refine r_cV0l cvL_126 (kX8_digest g M σ δ CC pg pn E.1.1 E.1.2.2.1 (fun k hk => (E.1.2.2.2 k hk).1)) (hs.lt (by decide)) (hs.T 0 rfl) ⟨Nat.le_of_ble_eq_true rfl, Nat.le_of_ble_eq_true rfl⟩ (Nat.le_of_ble_eq_true rfl) ⟨by show k + 0 ≤ 600000; omega, by show sl + 0 ≤ 7302250; omega⟩ dL_law_908 (fun r1 M1 h1 => ?_)
  obtain ⟨f1, F1, p1, q1⟩ := h1
  have hs1 := hs.fr f1
  have RR1 : RA σ δ M1 := RR.fr f1 (by intro a ha; simp [cF] at ha; (try unfold okK); omega)
  have EE1 := E.keep (KC.fr f1 (by intro a ha; simp [cF] at ha; (try unfold okK); omega)) (KR.fr f1 (by intro a ha; simp [cF] at ha; (try unfold okK); omega))
  have CC1 : CA σ δ M1 := CC.fr f1 (by intro a ha; simp [cF] at ha; (try unfold okK); omega)
  refine r_aload_n dL_law_911 rfl ?_
  refine r_cV0l cvL_130 (kX9_digest g M1 σ δ RR1 pg pn EE1.1.2.1 EE1.1.2.2.1 (fun k hk => (EE1.1.2.2.2 k hk).2.1)) (hs1.lt (by decide)) (hs1.T 44 rfl) ⟨Nat.le_of_ble_eq_true rfl, Nat.le_of_ble_eq_true rfl⟩ (Nat.le_of_ble_eq_true rfl) ⟨by show k + 0 ≤ 600000; omega, by show sl + 0 ≤ 7302250; omega⟩ dL_law_912 (fun r2 M2 h2 => ?_)
  obtain ⟨f2, F2, p2, q2⟩ := h2
  have hs2 := hs1.fr f2
  have EE2 := EE1.keep (KC.fr f2 (by intro a ha; simp [cF] at ha; (try unfold okK); omega)) (KR.fr f2 (by intro a ha; simp [cF] at ha; (try unfold okK); omega))
  have CC2 := CC1.fr f2 (by intro a ha; simp [cF] at ha; (try unfold okK); omega)
  have RR2 : RA σ δ M2 := RR1.fr f2 (by intro a ha; simp [cF] at ha; (try unfold okK); omega)
  refine r_lcmp dL_law_915 ?_
  refine r_if_eq 921 dL_law_916 (by decide) (fun c916 => ?_) (fun c916 => ?_)
  · skip
    exact K _ σ δ pg pn tr _ _ ⟨CC2, RR2, EE2⟩ (by omega) (by show k + 0 + 0 ≤ _; omega) (by show sl + 0 + 0 ≤ _; omega)
  · skip
    exact absurd (lgc0.mpr (by rw [q1, q2, few_eq CC.2.1 CC.2.2.1 p1 p2, E.2.1.1, EE1.2.1.2])) c916
set_option maxHeartbeats 4000000 in
set_option maxRecDepth 100000 in
theorem lc_count (g : Gx) (x : Cx) (Q : State → Prop) (b L : Nat) (zs : Nat → Int32) (hX : va_X b L zs x.2.2.2.1 x.2.2.2.1.heap) (hb : b < x.2.2.2.1.heap.size) (hg : b < g.1) (hL : L ≤ 2560) (i : Nat) (hi : i + 5 ≤ L) (k sl : Nat) (hk : k + 8 ≤ 600000) (hsl : sl + 24 ≤ 7302250) (σ : Ab) (δ : Dy) (pg : Rw) (pn tr : Nat) (M : Mm) (I : LI σ δ pg pn tr M) (K : ∀ M' σ' δ' pg' pn' tr' k' sl', LI σ' δ' pg' pn' tr' M' → tr' ≤ tr + 1 → k' ≤ k + 8 → sl' ≤ sl + 24 → Vj x g yL_law cL_law 4 (some .boolean) room_1 Q k' sl' M' 921 [(0, some (.ref b)), (1, some (.ref (g.1 + 0))), (2, some (.ref (g.1 + 44))), (3, some (.int (nI i)))] []) : Vj x g yL_law cL_law 4 (some .boolean) room_1 Q k sl M 884 [(0, some (.ref b)), (1, some (.ref (g.1 + 0))), (2, some (.ref (g.1 + 44))), (3, some (.int (nI i)))] [] := by
  obtain ⟨CC, RR, E⟩ := I
  have hs := CC.1
  refine r_aload_n dL_law_884 rfl ?_
  refine r_aload_n dL_law_885 rfl ?_
  refine r_iload_n dL_law_886 rfl ?_
  refine r_iconst (v := 1) dL_law_887 (by decide) ?_
  refine r_iadd dL_law_888 ?_
  refine r_sld hX hb hg (sx (c := 1) (by omega) hL).1 dL_law_889 ?_
  rw [show (nI i + 1).toNatClampNeg = i + 1 from (sx (i := i) (c := 1) (by omega) hL).2]
  refine r_cV1i cvL_122 (kX8_count g M σ δ CC (zs (i + 1))) (hs.lt (by decide)) (hs.T 0 rfl) ⟨Nat.le_of_ble_eq_true rfl, Nat.le_of_ble_eq_true rfl⟩ (Nat.le_of_ble_eq_true rfl) ⟨by show k + 0 ≤ 600000; omega, by show sl + 0 ≤ 7302250; omega⟩ dL_law_890 (fun r1 M1 h1 => ?_)
  obtain ⟨e1, h1⟩ := h1
  replace e1 := e1.symm
  subst e1
  have hs1 := hs
  refine r_aload_n dL_law_893 rfl ?_
  refine r_aload_n dL_law_894 rfl ?_
  refine r_iload_n dL_law_895 rfl ?_
  refine r_iconst (v := 1) dL_law_896 (by decide) ?_
  refine r_iadd dL_law_897 ?_
  refine r_sld hX hb hg (sx (c := 1) (by omega) hL).1 dL_law_898 ?_
  rw [show (nI i + 1).toNatClampNeg = i + 1 from (sx (i := i) (c := 1) (by omega) hL).2]
  refine r_cV1i cvL_125 (kX9_count g M σ δ RR (zs (i + 1))) (hs1.lt (by decide)) (hs1.T 44 rfl) ⟨Nat.le_of_ble_eq_true rfl, Nat.le_of_ble_eq_true rfl⟩ (Nat.le_of_ble_eq_true rfl) ⟨by show k + 0 ≤ 600000; omega, by show sl + 0 ≤ 7302250; omega⟩ dL_law_899 (fun r2 M2 h2 => ?_)
  obtain ⟨e2, h2⟩ := h2
  replace e2 := e2.symm
  subst e2
  have hs2 := hs
  refine r_icmp_eq 921 dL_law_902 (by decide) (fun c902 => ?_) (fun c902 => ?_)
  · skip
    exact K _ σ δ pg pn tr _ _ ⟨CC, RR, E⟩ (by omega) (by show k + 0 + 0 ≤ _; omega) (by show sl + 0 + 0 ≤ _; omega)
  · skip
    exact absurd (by rw [h1, h2, cntR, E.1.1, E.1.2.1, E.2.1.1, E.2.1.2]) c902
set_option maxHeartbeats 4000000 in
set_option maxRecDepth 100000 in
theorem lc_fault (g : Gx) (x : Cx) (Q : State → Prop) (b L : Nat) (zs : Nat → Int32) (hX : va_X b L zs x.2.2.2.1 x.2.2.2.1.heap) (hb : b < x.2.2.2.1.heap.size) (hg : b < g.1) (hL : L ≤ 2560) (i : Nat) (hi : i + 5 ≤ L) (k sl : Nat) (hk : k + 8 ≤ 600000) (hsl : sl + 24 ≤ 7302250) (σ : Ab) (δ : Dy) (pg : Rw) (pn tr : Nat) (M : Mm) (I : LI σ δ pg pn tr M) (K : ∀ M' σ' δ' pg' pn' tr' k' sl', LI σ' δ' pg' pn' tr' M' → tr' ≤ tr + 1 → k' ≤ k + 8 → sl' ≤ sl + 24 → Vj x g yL_law cL_law 4 (some .boolean) room_1 Q k' sl' M' 921 [(0, some (.ref b)), (1, some (.ref (g.1 + 0))), (2, some (.ref (g.1 + 44))), (3, some (.int (nI i)))] []) : Vj x g yL_law cL_law 4 (some .boolean) room_1 Q k sl M 222 [(0, some (.ref b)), (1, some (.ref (g.1 + 0))), (2, some (.ref (g.1 + 44))), (3, some (.int (nI i)))] [] := by
  obtain ⟨CC, RR, E⟩ := I
  have hs := CC.1
  refine r_aload_n dL_law_222 rfl ?_
  refine r_cV0i cvL_25 (kX8_fault g M hs pg pn E.1.1 E.1.2.2.1 (fun k hk => (E.1.2.2.2 k hk).1) (fun k hk => (E.1.2.2.2 k hk).2.2)) (hs.lt (by decide)) (hs.T 0 rfl) ⟨Nat.le_of_ble_eq_true rfl, Nat.le_of_ble_eq_true rfl⟩ (Nat.le_of_ble_eq_true rfl) ⟨by show k + 0 ≤ 600000; omega, by show sl + 0 ≤ 7302250; omega⟩ dL_law_223 (fun r1 M1 h1 => ?_)
  obtain ⟨f1, k1, q1, p1, _⟩ := h1
  have hs1 := hs.fr f1
  have RR1 : RA σ δ M1 := RR.fr f1 (by intro a ha; simp [cF] at ha; (try unfold okK); omega)
  have EE1 := E.keep (KC.fr f1 (by intro a ha; simp [cF] at ha; (try unfold okK); omega)) (KR.fr f1 (by intro a ha; simp [cF] at ha; (try unfold okK); omega))
  have CC1 : CA σ δ M1 := CC.fr f1 (by intro a ha; simp [cF] at ha; (try unfold okK); omega)
  refine r_aload_n dL_law_226 rfl ?_
  refine r_cV0i cvL_28 (kX9_fault g M1 hs1 pg pn EE1.1.2.1 EE1.1.2.2.1 (fun k hk => (EE1.1.2.2.2 k hk).2.1)) (hs1.lt (by decide)) (hs1.T 44 rfl) ⟨Nat.le_of_ble_eq_true rfl, Nat.le_of_ble_eq_true rfl⟩ (Nat.le_of_ble_eq_true rfl) ⟨by show k + 0 ≤ 600000; omega, by show sl + 0 ≤ 7302250; omega⟩ dL_law_227 (fun r2 M2 h2 => ?_)
  obtain ⟨f2, e2, k2, q2, p2, _⟩ := h2
  have hs2 := hs1.fr f2
  have EE2 := EE1.keep (KC.fr f2 (by intro a ha; simp [cF] at ha; (try unfold okK); omega)) (KR.f44 f2 (by intro a ha; simp [cF] at ha; (try unfold okK); omega) (fun k hk => e2 k (by omega) (by omega)))
  have CC2 := CC1.fr f2 (by intro a ha; simp [cF] at ha; (try unfold okK); omega)
  have RR2 : RA σ δ M2 := RR1.f44 f2 (by intro a ha; simp [cF] at ha; (try unfold okK); omega) (fun k hk => e2 k (by omega) (by omega))
  refine r_icmp_eq 921 dL_law_230 (by decide) (fun c230 => ?_) (fun c230 => ?_)
  · skip
    exact K _ σ δ pg pn tr _ _ ⟨CC2, RR2, EE2⟩ (by omega) (by show k + 0 + 0 ≤ _; omega) (by show sl + 0 + 0 ≤ _; omega)
  · skip
    exact absurd (by rw [q1, q2, flP_inj p1 p2]) c230
set_option maxHeartbeats 4000000 in
set_option maxRecDepth 100000 in
theorem lc_blank (g : Gx) (x : Cx) (Q : State → Prop) (b L : Nat) (zs : Nat → Int32) (hX : va_X b L zs x.2.2.2.1 x.2.2.2.1.heap) (hb : b < x.2.2.2.1.heap.size) (hg : b < g.1) (hL : L ≤ 2560) (i : Nat) (hi : i + 5 ≤ L) (k sl : Nat) (hk : k + 8 ≤ 600000) (hsl : sl + 24 ≤ 7302250) (σ : Ab) (δ : Dy) (pg : Rw) (pn tr : Nat) (M : Mm) (I : LI σ δ pg pn tr M) (K : ∀ M' σ' δ' pg' pn' tr' k' sl', LI σ' δ' pg' pn' tr' M' → tr' ≤ tr + 1 → k' ≤ k + 8 → sl' ≤ sl + 24 → Vj x g yL_law cL_law 4 (some .boolean) room_1 Q k' sl' M' 921 [(0, some (.ref b)), (1, some (.ref (g.1 + 0))), (2, some (.ref (g.1 + 44))), (3, some (.int (nI i)))] []) : Vj x g yL_law cL_law 4 (some .boolean) room_1 Q k sl M 209 [(0, some (.ref b)), (1, some (.ref (g.1 + 0))), (2, some (.ref (g.1 + 44))), (3, some (.int (nI i)))] [] := by
  obtain ⟨CC, RR, E⟩ := I
  have hs := CC.1
  refine r_aload_n dL_law_209 rfl ?_
  refine r_cV0i cvL_20 (kX8_blank g M hs) (hs.lt (by decide)) (hs.T 0 rfl) ⟨Nat.le_of_ble_eq_true rfl, Nat.le_of_ble_eq_true rfl⟩ (Nat.le_of_ble_eq_true rfl) ⟨by show k + 0 ≤ 600000; omega, by show sl + 0 ≤ 7302250; omega⟩ dL_law_210 (fun r1 M1 h1 => ?_)
  obtain ⟨m1, q1⟩ := h1
  have f1 : Fr [1] [] M M1 := by rw [m1]; exact (Fr.rf _ _ _).sI (by simp)
  have hs1 := hs.fr f1
  have RR1 : RA σ δ M1 := RR.fr f1 (by intro a ha; simp [cF] at ha; (try unfold okK); omega)
  have CC1 : CA σ δ M1 := CC.fr f1 (by intro a ha; simp [cF] at ha; (try unfold okK); omega)
  refine r_aload_n dL_law_213 rfl ?_
  refine r_cV0i cvL_24 (kX9_blank g M1 hs1) (hs1.lt (by decide)) (hs1.T 44 rfl) ⟨Nat.le_of_ble_eq_true rfl, Nat.le_of_ble_eq_true rfl⟩ (Nat.le_of_ble_eq_true rfl) ⟨by show k + 0 ≤ 600000; omega, by show sl + 0 ≤ 7302250; omega⟩ dL_law_214 (fun r2 M2 h2 => ?_)
  obtain ⟨m2, q2⟩ := h2
  have f2 : Fr [44] [] M1 M2 := by rw [m2]; exact (Fr.rf _ _ _).sI (by simp)
  have e2 : ∀ k, k ≠ 1 → mI M2 44 k = mI M1 44 k := fun k hk => by rw [m2, mI_sI, va_up_ne _ _ hk]
  have hs2 := hs1.fr f2
  have CC2 := CC1.fr f2 (by intro a ha; simp [cF] at ha; (try unfold okK); omega)
  have RR2 : RA σ δ M2 := RR1.f44 f2 (by intro a ha; simp [cF] at ha; (try unfold okK); omega) (fun k hk => e2 k (by omega))
  have n1 : ∀ c, c ≠ 1 → c ≠ 44 → mI M2 c = mI M c := fun c a b => (f2.2.1 c (by simp; exact b)).trans (f1.2.1 c (by simp; exact a))
  have n44 : mI M1 44 = mI M 44 := f1.2.1 44 (by decide)
  have EE2 : EX σ pg 0 tr M2 := ⟨⟨by rw [f2.2.1 1 (by decide), m1, mI_sI, va_up_self]; rfl, by rw [m2, mI_sI, va_up_self]; rfl, by omega, fun k hk => absurd hk (Nat.not_lt_zero k)⟩, ⟨by rw [n1 0 (by decide) (by decide)]; exact E.2.1.1, by rw [e2 6 (by decide), n44]; exact E.2.1.2⟩, E.2.2.kp (fun k _ _ => by rw [n1 0 (by decide) (by decide)]) (fun c a b => n1 c (by omega) (by omega)) (fun k a b => by rw [e2 k (by omega), n44]) ⟨n1 56 (by decide) (by decide), n1 57 (by decide) (by decide), n1 58 (by decide) (by decide)⟩⟩
  refine r_icmp_eq 921 dL_law_217 (by decide) (fun c217 => ?_) (fun c217 => ?_)
  · skip
    exact K _ σ δ pg 0 tr _ _ ⟨CC2, RR2, EE2⟩ (by omega) (by show k + 0 + 0 ≤ _; omega) (by show sl + 0 + 0 ≤ _; omega)
  · skip
    exact absurd (by rw [q1, q2, f1.2.1 44 (by decide), E.1.1, E.1.2.1]) c217
