theorem letN_le {v : Int64} {pn : Nat} (h : pn ≤ 40) : letN v pn ≤ 40 := by
  unfold letN
  split
  · next q => exact q.2
  · exact h
theorem nI_byte {b : Nat} (h : b < 256) : 0 ≤ nI b ∧ nI b ≤ 255 := ⟨nI_pos' (by omega), nI_le (b := 255) (by omega) (by decide)⟩
theorem letG_bd {v : Int64} {pn : Nat} {pg : Rw} (h : ∀ k, k < pn → 0 ≤ pg k ∧ pg k ≤ 255) (k : Nat) : 0 ≤ letG v pn pg k ∧ letG v pn pg k ≤ 255 := by
  unfold letG
  split
  · next q => exact h k q
  · exact nI_byte (byN_lt v _)
theorem zS_spo (σ : Ab) (t v : Int32) : spoS σ t v = σ ∨ zS (spoS σ t v) = zS σ + 1 := by
  unfold spoS
  split
  · exact Or.inr rfl
  · exact Or.inl rfl
theorem IMs.spoon {σ : Ab} {tr : Nat} {M : Mm} (t v : Int32) (h : IMs σ tr M) : IMs (spoS σ t v) tr M := by
  rcases zS_spo σ t v with e | e
  · rw [e]; exact h
  · rcases h with h | ⟨h, kr, ks, h1, h2, h3, h4, h5, h6, h7⟩
    · exact Or.inl h
    · exact Or.inr ⟨h, kr, ks, h1, h2, h3, h4, h5, by omega, fun _ q => by omega⟩
theorem IMs.con {σ : Ab} {tr n : Nat} {rw' : Rw} {M : Mm} (h : IMs σ tr M) : IMs (conS σ n rw') (tr + 1) M := by
  rcases h with h | ⟨h, kr, ks, h1, h2, h3, h4, h5, h6, h7⟩
  · exact Or.inl h
  · exact Or.inr ⟨h, kr, ks, h1, h2, h3, h4, by omega, h6, fun q _ => by omega⟩
theorem IMs.res {σ : Ab} {δ : Dy} {tr : Nat} {M : Mm} (h : IMs σ tr M) (w : Wf σ) (ht : tr ≤ 4000) (a : mI M 0 14 = nI tr) (b : mI M 44 6 = nI tr) (c : mI M 0 13 = nI (zS σ)) (d : mI M 44 10 = nI (zS σ)) : ∃ δ2, ((¬ mI M 0 15 = 0 ∧ mI M 0 16 = mI M 0 14 ∧ mI M 0 17 = mI M 0 13) ↔ (mI M 44 22 = mI M 44 6 ∧ mI M 44 23 = mI M 44 10)) ∧ ((¬ mI M 0 15 = 0 ∧ mI M 0 16 = mI M 0 14 ∧ mI M 0 17 = mI M 0 13) → CC 18 M σ δ2 ∧ RK σ δ2 M ∧ DW σ δ2) := by
  have w2 := w.2.1
  rw [a, b, c, d]
  rcases h with ⟨h, h'⟩ | ⟨h, kr, ks, h1, h2, h3, h4, h5, h6, h7⟩
  · refine ⟨δ, ⟨fun q => absurd h q.1, fun q => ?_⟩, fun q => absurd h q.1⟩
    exfalso
    rw [h'] at q
    exact nI_ne_m1 (j := tr) (by omega) q.1.symm
  · rw [h, h1, h2, h3, h4, nI_eq (by omega) (by omega), nI_eq (by omega) (by omega)]
    by_cases q : kr = tr ∧ ks = zS σ
    · obtain ⟨δ2, c1, c2, c3⟩ := h7 q.1 q.2
      exact ⟨δ2, ⟨fun z => z.2, fun z => ⟨by decide, z⟩⟩, fun _ => ⟨c1, c2, c3⟩⟩
    · exact ⟨δ, ⟨fun z => z.2, fun z => ⟨by decide, z⟩⟩, fun z => absurd z.2 q⟩
theorem RA.eqM {σ : Ab} {δ : Dy} {M M' : Mm} (h : RA σ δ M) (s : St M') (a : mI M' 44 = mI M 44) (b : mI M' 47 = mI M 47) (c : mI M' 48 = mI M 48) (d : mI M' 49 = mI M 49) (e : mI M' 50 = mI M 50) : RA σ δ M' := by
  obtain ⟨_, h2, h3, h4, h5⟩ := h
  refine ⟨s, h2, h3, ?_, ?_⟩
  · unfold RV1
    rw [a, b, e]
    exact h4
  · rw [a, c, d, e]
    exact h5
set_option maxHeartbeats 4000000 in
set_option maxRecDepth 100000 in
theorem lc_letters (g : Gx) (x : Cx) (Q : State → Prop) (b L : Nat) (zs : Nat → Int32) (hX : va_X b L zs x.2.2.2.1 x.2.2.2.1.heap) (hb : b < x.2.2.2.1.heap.size) (hg : b < g.1) (hL : L ≤ 2560) (i : Nat) (hi : i + 5 ≤ L) (k sl : Nat) (hk : k + 8 ≤ 600000) (hsl : sl + 24 ≤ 7302250) (σ : Ab) (δ : Dy) (pg : Rw) (pn tr : Nat) (M : Mm) (I : LI σ δ pg pn tr M) (K : ∀ M' σ' δ' pg' pn' tr' k' sl', LI σ' δ' pg' pn' tr' M' → tr' ≤ tr + 1 → k' ≤ k + 8 → sl' ≤ sl + 24 → Vj x g yL_law cL_law 4 (some .boolean) room_1 Q k' sl' M' 921 [(0, some (.ref b)), (1, some (.ref (g.1 + 0))), (2, some (.ref (g.1 + 44))), (3, some (.int (nI i)))] []) : Vj x g yL_law cL_law 4 (some .boolean) room_1 Q k sl M 156 [(0, some (.ref b)), (1, some (.ref (g.1 + 0))), (2, some (.ref (g.1 + 44))), (3, some (.int (nI i)))] [] := by
  obtain ⟨CC, RR, E⟩ := I
  have hs := CC.1
  refine r_aload_n dL_law_156 rfl ?_
  refine r_aload_n dL_law_157 rfl ?_
  refine r_iload_n dL_law_158 rfl ?_
  refine r_iconst (v := 1) dL_law_159 (by decide) ?_
  refine r_iadd dL_law_160 ?_
  refine r_sld hX hb hg (sx (c := 1) (by omega) hL).1 dL_law_161 ?_
  rw [show (nI i + 1).toNatClampNeg = i + 1 from (sx (i := i) (c := 1) (by omega) hL).2]
  refine r_i2l dL_law_162 ?_
  refine r_bipush (v := 32) dL_law_163 (by decide) ?_
  refine r_lshl dL_law_165 ?_
  refine r_aload_n dL_law_166 rfl ?_
  refine r_iload_n dL_law_167 rfl ?_
  refine r_iconst (v := 2) dL_law_168 (by decide) ?_
  refine r_iadd dL_law_169 ?_
  refine r_sld hX hb hg (sx (c := 2) (by omega) hL).1 dL_law_170 ?_
  rw [show (nI i + 2).toNatClampNeg = i + 2 from (sx (i := i) (c := 2) (by omega) hL).2]
  refine r_i2l dL_law_171 ?_
  refine r_ldc2_w (v := 4294967295) dL_law_172 tw989 ?_
  refine r_land dL_law_175 ?_
  refine r_lor dL_law_176 ?_
  refine r_topl (fun z hz => ?_)
  refine r_cV1i cvL_15 (kX8_letters g M hs z pg pn E.1.1 E.1.2.2.1 (fun k hk => (E.1.2.2.2 k hk).1)) (hs.lt (by decide)) (hs.T 0 rfl) ⟨Nat.le_of_ble_eq_true rfl, Nat.le_of_ble_eq_true rfl⟩ (Nat.le_of_ble_eq_true rfl) ⟨by show k + 0 ≤ 600000; omega, by show sl + 0 ≤ 7302250; omega⟩ dL_law_177 (fun r1 M1 h1 => ?_)
  obtain ⟨f1, q1, p1, g1⟩ := h1
  have hs1 := hs.fr f1
  have RR1 : RA σ δ M1 := RR.fr f1 (by intro a ha; simp [cF] at ha; (try unfold okK); omega)
  have CC1 : CA σ δ M1 := CC.fr f1 (by intro a ha; simp [cF] at ha; (try unfold okK); omega)
  have n44 : mI M1 44 = mI M 44 := f1.2.1 44 (by decide)
  have n45 : mI M1 45 = mI M 45 := f1.2.1 45 (by decide)
  refine r_aload_n dL_law_180 rfl ?_
  refine r_aload_n dL_law_181 rfl ?_
  refine r_iload_n dL_law_182 rfl ?_
  refine r_iconst (v := 1) dL_law_183 (by decide) ?_
  refine r_iadd dL_law_184 ?_
  refine r_sld hX hb hg (sx (c := 1) (by omega) hL).1 dL_law_185 ?_
  rw [show (nI i + 1).toNatClampNeg = i + 1 from (sx (i := i) (c := 1) (by omega) hL).2]
  refine r_i2l dL_law_186 ?_
  refine r_bipush (v := 32) dL_law_187 (by decide) ?_
  refine r_lshl dL_law_189 ?_
  refine r_aload_n dL_law_190 rfl ?_
  refine r_iload_n dL_law_191 rfl ?_
  refine r_iconst (v := 2) dL_law_192 (by decide) ?_
  refine r_iadd dL_law_193 ?_
  refine r_sld hX hb hg (sx (c := 2) (by omega) hL).1 dL_law_194 ?_
  rw [show (nI i + 2).toNatClampNeg = i + 2 from (sx (i := i) (c := 2) (by omega) hL).2]
  refine r_i2l dL_law_195 ?_
  refine r_ldc2_w (v := 4294967295) dL_law_196 tw989 ?_
  refine r_land dL_law_199 ?_
  refine r_lor dL_law_200 ?_
  refine r_eql hz.symm ?_
  refine r_cV1i cvL_19 (kX9_letters g M1 hs1 z pg pn (by rw [n44]; exact E.1.2.1) E.1.2.2.1 (fun k hk => by rw [n45]; exact (E.1.2.2.2 k hk).2.1)) (hs1.lt (by decide)) (hs1.T 44 rfl) ⟨Nat.le_of_ble_eq_true rfl, Nat.le_of_ble_eq_true rfl⟩ (Nat.le_of_ble_eq_true rfl) ⟨by show k + 0 ≤ 600000; omega, by show sl + 0 ≤ 7302250; omega⟩ dL_law_201 (fun r2 M2 h2 => ?_)
  obtain ⟨f2, q2, p2, g2, e2⟩ := h2
  have hs2 := hs1.fr f2
  have CC2 := CC1.fr f2 (by intro a ha; simp [cF] at ha; (try unfold okK); omega)
  have RR2 : RA σ δ M2 := RR1.f44 f2 (by intro a ha; simp [cF] at ha; (try unfold okK); omega) (fun k hk => e2 k (by omega))
  have n1 : ∀ c, c ≠ 1 → c ≠ 2 → c ≠ 44 → c ≠ 45 → mI M2 c = mI M c := fun c a b d e => (f2.2.1 c (by simp; exact ⟨d, e⟩)).trans (f1.2.1 c (by simp; exact ⟨a, b⟩))
  have EE2 : EX σ (letG z pn pg) (letN z pn) tr M2 := ⟨⟨by rw [f2.2.1 1 (by decide)]; exact p1, p2, letN_le E.1.2.2.1, fun k hk => ⟨by rw [f2.2.1 2 (by decide)]; exact g1 k hk, g2 k hk, letG_bd (fun k hk => (E.1.2.2.2 k hk).2.2) k⟩⟩, ⟨by rw [n1 0 (by decide) (by decide) (by decide) (by decide)]; exact E.2.1.1, by rw [e2 6 (by decide), n44]; exact E.2.1.2⟩, E.2.2.kp (fun k _ _ => by rw [n1 0 (by decide) (by decide) (by decide) (by decide)]) (fun c a b => n1 c (by omega) (by omega) (by omega) (by omega)) (fun k a b => by rw [e2 k (by omega), n44]) ⟨n1 56 (by decide) (by decide) (by decide) (by decide), n1 57 (by decide) (by decide) (by decide) (by decide), n1 58 (by decide) (by decide) (by decide) (by decide)⟩⟩
  refine r_icmp_eq 921 dL_law_204 (by decide) (fun c204 => ?_) (fun c204 => ?_)
  · skip
    exact K _ σ δ (letG z pn pg) (letN z pn) tr _ _ ⟨CC2, RR2, EE2⟩ (by omega) (by show k + 0 + 0 ≤ _; omega) (by show sl + 0 + 0 ≤ _; omega)
  · skip
    exact absurd (q1.trans q2.symm) c204
set_option maxHeartbeats 4000000 in
set_option maxRecDepth 100000 in
theorem lc_spoon (g : Gx) (x : Cx) (Q : State → Prop) (b L : Nat) (zs : Nat → Int32) (hX : va_X b L zs x.2.2.2.1 x.2.2.2.1.heap) (hb : b < x.2.2.2.1.heap.size) (hg : b < g.1) (hL : L ≤ 2560) (i : Nat) (hi : i + 5 ≤ L) (k sl : Nat) (hk : k + 8 ≤ 600000) (hsl : sl + 24 ≤ 7302250) (σ : Ab) (δ : Dy) (pg : Rw) (pn tr : Nat) (M : Mm) (I : LI σ δ pg pn tr M) (K : ∀ M' σ' δ' pg' pn' tr' k' sl', LI σ' δ' pg' pn' tr' M' → tr' ≤ tr + 1 → k' ≤ k + 8 → sl' ≤ sl + 24 → Vj x g yL_law cL_law 4 (some .boolean) room_1 Q k' sl' M' 921 [(0, some (.ref b)), (1, some (.ref (g.1 + 0))), (2, some (.ref (g.1 + 44))), (3, some (.int (nI i)))] []) : Vj x g yL_law cL_law 4 (some .boolean) room_1 Q k sl M 478 [(0, some (.ref b)), (1, some (.ref (g.1 + 0))), (2, some (.ref (g.1 + 44))), (3, some (.int (nI i)))] [] := by
  obtain ⟨CC, RR, E⟩ := I
  have hs := CC.1
  refine r_aload_n dL_law_478 rfl ?_
  refine r_aload_n dL_law_479 rfl ?_
  refine r_iload_n dL_law_480 rfl ?_
  refine r_iconst (v := 1) dL_law_481 (by decide) ?_
  refine r_iadd dL_law_482 ?_
  refine r_sld hX hb hg (sx (c := 1) (by omega) hL).1 dL_law_483 ?_
  rw [show (nI i + 1).toNatClampNeg = i + 1 from (sx (i := i) (c := 1) (by omega) hL).2]
  refine r_aload_n dL_law_484 rfl ?_
  refine r_iload_n dL_law_485 rfl ?_
  refine r_iconst (v := 2) dL_law_486 (by decide) ?_
  refine r_iadd dL_law_487 ?_
  refine r_sld hX hb hg (sx (c := 2) (by omega) hL).1 dL_law_488 ?_
  rw [show (nI i + 2).toNatClampNeg = i + 2 from (sx (i := i) (c := 2) (by omega) hL).2]
  refine r_cV2i cvL_59 (kX8_spoon g M σ δ CC (zs (i + 1)) (zs (i + 2))) (hs.lt (by decide)) (hs.T 0 rfl) ⟨Nat.le_of_ble_eq_true rfl, Nat.le_of_ble_eq_true rfl⟩ (Nat.le_of_ble_eq_true rfl) ⟨by show k + 0 ≤ 600000; omega, by show sl + 0 ≤ 7302250; omega⟩ dL_law_489 (fun r1 M1 h1 => ?_)
  obtain ⟨f1, q1, d1, e1⟩ := h1
  have hs1 := hs.fr f1
  have RR1 : RA σ δ M1 := RR.fr f1 (by intro a ha; simp [cF] at ha; (try unfold okK); omega)
  have kc1 : KC M M1 := ⟨by rw [f1.2.1 1 (by decide)], f1.2.1 2 (by decide), fun k a b => e1 k (by omega), fun c a b => f1.2.1 c (by simp; omega)⟩
  have EE1 := E.keep kc1 (KR.fr f1 (by intro a ha; simp [cF] at ha; (try unfold okK); omega))
  refine r_aload_n dL_law_492 rfl ?_
  refine r_aload_n dL_law_493 rfl ?_
  refine r_iload_n dL_law_494 rfl ?_
  refine r_iconst (v := 1) dL_law_495 (by decide) ?_
  refine r_iadd dL_law_496 ?_
  refine r_sld hX hb hg (sx (c := 1) (by omega) hL).1 dL_law_497 ?_
  rw [show (nI i + 1).toNatClampNeg = i + 1 from (sx (i := i) (c := 1) (by omega) hL).2]
  refine r_aload_n dL_law_498 rfl ?_
  refine r_iload_n dL_law_499 rfl ?_
  refine r_iconst (v := 2) dL_law_500 (by decide) ?_
  refine r_iadd dL_law_501 ?_
  refine r_sld hX hb hg (sx (c := 2) (by omega) hL).1 dL_law_502 ?_
  rw [show (nI i + 2).toNatClampNeg = i + 2 from (sx (i := i) (c := 2) (by omega) hL).2]
  refine r_cV2i cvL_62 (kX9_spoon g M1 σ δ RR1 (zs (i + 1)) (zs (i + 2))) (hs1.lt (by decide)) (hs1.T 44 rfl) ⟨Nat.le_of_ble_eq_true rfl, Nat.le_of_ble_eq_true rfl⟩ (Nat.le_of_ble_eq_true rfl) ⟨by show k + 0 ≤ 600000; omega, by show sl + 0 ≤ 7302250; omega⟩ dL_law_503 (fun r2 M2 h2 => ?_)
  obtain ⟨f2, q2, d2, e2⟩ := h2
  have hs2 := hs1.fr f2
  have CC2 := d1.fr f2 (by intro a ha; simp [cF] at ha; (try unfold okK); omega)
  have EE2 := EE1.keep (KC.fr f2 (by intro a ha; simp [cF] at ha; (try unfold okK); omega)) (KR.f44 f2 (by intro a ha; simp [cF] at ha; (try unfold okK); omega) (fun k hk => e2 k (by omega)))
  have EE3 : EX (spoS σ (zs (i + 1)) (zs (i + 2))) pg pn tr M2 := ⟨EE2.1, EE2.2.1, EE2.2.2.spoon _ _⟩
  refine r_icmp_eq 921 dL_law_506 (by decide) (fun c506 => ?_) (fun c506 => ?_)
  · skip
    exact K _ _ _ pg pn tr _ _ ⟨CC2, d2, EE3⟩ (by omega) (by show k + 0 + 0 ≤ _; omega) (by show sl + 0 + 0 ≤ _; omega)
  · skip
    exact absurd (q1.trans q2.symm) c506
set_option maxHeartbeats 4000000 in
set_option maxRecDepth 100000 in
theorem lc_image (g : Gx) (x : Cx) (Q : State → Prop) (b L : Nat) (zs : Nat → Int32) (hX : va_X b L zs x.2.2.2.1 x.2.2.2.1.heap) (hb : b < x.2.2.2.1.heap.size) (hg : b < g.1) (hL : L ≤ 2560) (i : Nat) (hi : i + 5 ≤ L) (k sl : Nat) (hk : k + 8 ≤ 600000) (hsl : sl + 24 ≤ 7302250) (σ : Ab) (δ : Dy) (pg : Rw) (pn tr : Nat) (M : Mm) (I : LI σ δ pg pn tr M) (K : ∀ M' σ' δ' pg' pn' tr' k' sl', LI σ' δ' pg' pn' tr' M' → tr' ≤ tr + 1 → k' ≤ k + 8 → sl' ≤ sl + 24 → Vj x g yL_law cL_law 4 (some .boolean) room_1 Q k' sl' M' 921 [(0, some (.ref b)), (1, some (.ref (g.1 + 0))), (2, some (.ref (g.1 + 44))), (3, some (.int (nI i)))] []) : Vj x g yL_law cL_law 4 (some .boolean) room_1 Q k sl M 858 [(0, some (.ref b)), (1, some (.ref (g.1 + 0))), (2, some (.ref (g.1 + 44))), (3, some (.int (nI i)))] [] := by
  obtain ⟨CC, RR, E⟩ := I
  have hs := CC.1
  refine r_aload_n dL_law_858 rfl ?_
  refine r_cV0i cvL_114 (kX8_image g M σ δ CC) (hs.lt (by decide)) (hs.T 0 rfl) ⟨Nat.le_of_ble_eq_true rfl, Nat.le_of_ble_eq_true rfl⟩ (Nat.le_of_ble_eq_true rfl) ⟨by show k + 0 ≤ 600000; omega, by show sl + 0 ≤ 7302250; omega⟩ dL_law_859 (fun r1 M1 h1 => ?_)
  obtain ⟨f1, q1, d1, c1, i15, i16, i17, e1⟩ := h1
  have hs1 := hs.fr f1
  have RR1 : RA σ δ M1 := RR.fr f1 (by intro a ha; simp [cF] at ha; (try unfold okK); omega)
  have n44 : mI M1 44 = mI M 44 := f1.2.1 44 (by simp [cF])
  refine r_aload_n dL_law_862 rfl ?_
  refine r_cV0i cvL_117 (kX9_image g M1 σ δ RR1) (hs1.lt (by decide)) (hs1.T 44 rfl) ⟨Nat.le_of_ble_eq_true rfl, Nat.le_of_ble_eq_true rfl⟩ (Nat.le_of_ble_eq_true rfl) ⟨by show k + 0 ≤ 600000; omega, by show sl + 0 ≤ 7302250; omega⟩ dL_law_863 (fun r2 M2 h2 => ?_)
  obtain ⟨f2, q2, k2, i22, i23, e2⟩ := h2
  have hs2 := hs1.fr f2
  have CC2 := d1.fr f2 (by intro a ha; simp [cF] at ha; (try unfold okK); omega)
  have RR2 : RA σ δ M2 := RR1.f44 f2 (by intro a ha; simp [cF] at ha; (try unfold okK); omega) (fun k hk => e2 k (by omega))
  have m0 : ∀ c, c < 44 → mI M2 c = mI M1 c := fun c hc => f2.2.1 c (by simp; omega)
  have EE2 : EX σ pg pn tr M2 := ⟨⟨by rw [m0 1 (by decide), f1.2.1 1 (by simp [cF])]; exact E.1.1, by rw [e2 1 (by decide), n44]; exact E.1.2.1, E.1.2.2.1, fun k hk => ⟨by rw [m0 2 (by decide), f1.2.1 2 (by simp [cF])]; exact (E.1.2.2.2 k hk).1, by rw [f2.2.1 45 (by decide), f1.2.1 45 (by simp [cF])]; exact (E.1.2.2.2 k hk).2.1, (E.1.2.2.2 k hk).2.2⟩⟩, ⟨by rw [m0 0 (by decide), e1 14 (by decide)]; exact E.2.1.1, by rw [e2 6 (by decide), n44]; exact E.2.1.2⟩, Or.inr ⟨by rw [m0 0 (by decide)]; exact i15, tr, zS σ, by rw [m0 0 (by decide), i16]; exact E.2.1.1, by rw [i22, n44]; exact E.2.1.2, by rw [m0 0 (by decide)]; exact i17, i23, Nat.le_refl _, Nat.le_refl _, fun _ _ => ⟨δ, c1.keep (fun k hk => m0 (18 + k) (by omega)), k2, CC.2.2.1⟩⟩⟩
  refine r_icmp_eq 921 dL_law_866 (by decide) (fun c866 => ?_) (fun c866 => ?_)
  · skip
    exact K _ σ δ pg pn tr _ _ ⟨CC2, RR2, EE2⟩ (by omega) (by show k + 0 + 0 ≤ _; omega) (by show sl + 0 + 0 ≤ _; omega)
  · skip
    exact absurd (q1.trans q2.symm) c866
set_option maxHeartbeats 4000000 in
set_option maxRecDepth 100000 in
theorem lc_restore (g : Gx) (x : Cx) (Q : State → Prop) (b L : Nat) (zs : Nat → Int32) (hX : va_X b L zs x.2.2.2.1 x.2.2.2.1.heap) (hb : b < x.2.2.2.1.heap.size) (hg : b < g.1) (hL : L ≤ 2560) (i : Nat) (hi : i + 5 ≤ L) (k sl : Nat) (hk : k + 8 ≤ 600000) (hsl : sl + 24 ≤ 7302250) (σ : Ab) (δ : Dy) (pg : Rw) (pn tr : Nat) (M : Mm) (I : LI σ δ pg pn tr M) (K : ∀ M' σ' δ' pg' pn' tr' k' sl', LI σ' δ' pg' pn' tr' M' → tr' ≤ tr + 1 → k' ≤ k + 8 → sl' ≤ sl + 24 → Vj x g yL_law cL_law 4 (some .boolean) room_1 Q k' sl' M' 921 [(0, some (.ref b)), (1, some (.ref (g.1 + 0))), (2, some (.ref (g.1 + 44))), (3, some (.int (nI i)))] []) (htr : tr ≤ 4000) : Vj x g yL_law cL_law 4 (some .boolean) room_1 Q k sl M 871 [(0, some (.ref b)), (1, some (.ref (g.1 + 0))), (2, some (.ref (g.1 + 44))), (3, some (.int (nI i)))] [] := by
  obtain ⟨CC, RR, E⟩ := I
  have hs := CC.1
  obtain ⟨δ2, iff, hk2⟩ := E.2.2.res (δ := δ) CC.2.1 htr E.2.1.1 E.2.1.2 CC.2.2.2.1.2.1 RR.2.2.2.1.2.1
  refine r_aload_n dL_law_871 rfl ?_
  refine r_cV0i cvL_118 (kX8_restore g M σ δ CC δ2 (fun q => ⟨(hk2 q).1, (hk2 q).2.2⟩)) (hs.lt (by decide)) (hs.T 0 rfl) ⟨Nat.le_of_ble_eq_true rfl, Nat.le_of_ble_eq_true rfl⟩ (Nat.le_of_ble_eq_true rfl) ⟨by show k + 0 ≤ 600000; omega, by show sl + 0 ≤ 7302250; omega⟩ dL_law_872 (fun r1 M1 h1 => ?_)
  obtain ⟨δ3, u1, f1, d1, y1, w1⟩ : ∃ δ3, (((¬ mI M 0 15 = 0 ∧ mI M 0 16 = mI M 0 14 ∧ mI M 0 17 = mI M 0 13) → δ3 = δ2) ∧ (¬ (¬ mI M 0 15 = 0 ∧ mI M 0 16 = mI M 0 14 ∧ mI M 0 17 = mI M 0 13) → δ3 = δ)) ∧ Fr (cF 11) [] M M1 ∧ CA σ δ3 M1 ∧ ((¬ mI M 0 15 = 0 ∧ mI M 0 16 = mI M 0 14 ∧ mI M 0 17 = mI M 0 13) → r1 = nI (zS σ)) ∧ (¬ (¬ mI M 0 15 = 0 ∧ mI M 0 16 = mI M 0 14 ∧ mI M 0 17 = mI M 0 13) → r1 = -103) := by
    by_cases hA : (¬ mI M 0 15 = 0 ∧ mI M 0 16 = mI M 0 14 ∧ mI M 0 17 = mI M 0 13)
    · obtain ⟨a, b, c⟩ := h1.1 hA
      exact ⟨δ2, ⟨fun _ => rfl, fun q => absurd hA q⟩, a, c, fun _ => b, fun q => absurd hA q⟩
    · obtain ⟨a, b⟩ := h1.2 hA
      subst a
      exact ⟨δ, ⟨fun q => absurd q hA, fun _ => rfl⟩, Fr.rf _ _ _, CC, fun q => absurd q hA, fun _ => b⟩
  have hs1 := hs.fr f1
  have RR1 : RA σ δ M1 := RR.fr f1 (by intro a ha; simp [cF] at ha; (try unfold okK); omega)
  have n44 : mI M1 44 = mI M 44 := f1.2.1 44 (by simp [cF])
  have kr1 : KR M M1 := KR.fr f1 (by intro a ha; simp [cF] at ha; (try unfold okK); omega)
  have EE1 := E.keep (KC.fr f1 (by intro a ha; simp [cF] at ha; (try unfold okK); omega)) kr1
  refine r_aload_n dL_law_875 rfl ?_
  refine r_cV0i cvL_121 (kX9_restore g M1 σ δ RR1 δ2 (fun q => by rw [n44] at q; exact ⟨(hk2 (iff.mpr q)).2.1.keep kr1, (hk2 (iff.mpr q)).2.2⟩)) (hs1.lt (by decide)) (hs1.T 44 rfl) ⟨Nat.le_of_ble_eq_true rfl, Nat.le_of_ble_eq_true rfl⟩ (Nat.le_of_ble_eq_true rfl) ⟨by show k + 0 ≤ 600000; omega, by show sl + 0 ≤ 7302250; omega⟩ dL_law_876 (fun r2 M2 h2 => ?_)
  have iff2 : (¬ mI M 0 15 = 0 ∧ mI M 0 16 = mI M 0 14 ∧ mI M 0 17 = mI M 0 13) ↔ (mI M1 44 22 = mI M1 44 6 ∧ mI M1 44 23 = mI M1 44 10) := by rw [n44]; exact iff
  obtain ⟨f2, d2, e2, y2, w2⟩ : Fr [44, 48, 49, 50] [] M1 M2 ∧ RA σ δ3 M2 ∧ (∀ k, k ≠ 8 → k ≠ 11 → k ≠ 12 → k ≠ 13 → mI M2 44 k = mI M1 44 k) ∧ ((¬ mI M 0 15 = 0 ∧ mI M 0 16 = mI M 0 14 ∧ mI M 0 17 = mI M 0 13) → r2 = nI (zS σ)) ∧ (¬ (¬ mI M 0 15 = 0 ∧ mI M 0 16 = mI M 0 14 ∧ mI M 0 17 = mI M 0 13) → r2 = -103) := by
    by_cases hA : (¬ mI M 0 15 = 0 ∧ mI M 0 16 = mI M 0 14 ∧ mI M 0 17 = mI M 0 13)
    · obtain ⟨a, b, c, d⟩ := h2.1 (iff2.mp hA)
      exact ⟨a, by rw [u1.1 hA]; exact c, d, fun _ => b, fun q => absurd hA q⟩
    · obtain ⟨a, b⟩ := h2.2 (fun q => hA (iff2.mpr q))
      subst a
      exact ⟨Fr.rf _ _ _, by rw [u1.2 hA]; exact RR1, fun _ _ _ _ _ => rfl, fun q => absurd q hA, fun _ => b⟩
  have hs2 := hs1.fr f2
  have CC2 := d1.fr f2 (by intro a ha; simp [cF] at ha; (try unfold okK); omega)
  have EE2 := EE1.keep (KC.fr f2 (by intro a ha; simp [cF] at ha; (try unfold okK); omega)) (KR.f44 f2 (by intro a ha; simp [cF] at ha; (try unfold okK); omega) (fun k hk => e2 k (by omega) (by omega) (by omega) (by omega)))
  refine r_icmp_eq 921 dL_law_879 (by decide) (fun c879 => ?_) (fun c879 => ?_)
  · skip
    exact K _ σ δ3 pg pn tr _ _ ⟨CC2, d2, EE2⟩ (by omega) (by show k + 0 + 0 ≤ _; omega) (by show sl + 0 + 0 ≤ _; omega)
  · skip
    exact absurd (by by_cases hA : (¬ mI M 0 15 = 0 ∧ mI M 0 16 = mI M 0 14 ∧ mI M 0 17 = mI M 0 13); rw [y1 hA, y2 hA]; rw [w1 hA, w2 hA]) c879
set_option maxHeartbeats 4000000 in
set_option maxRecDepth 100000 in
theorem lc_contractsA (g : Gx) (x : Cx) (Q : State → Prop) (b L : Nat) (zs : Nat → Int32) (hX : va_X b L zs x.2.2.2.1 x.2.2.2.1.heap) (hb : b < x.2.2.2.1.heap.size) (hg : b < g.1) (hL : L ≤ 2560) (i : Nat) (hi : i + 5 ≤ L) (k sl : Nat) (hk : k + 8 ≤ 600000) (hsl : sl + 24 ≤ 7302250) (σ : Ab) (δ : Dy) (pg : Rw) (pn tr : Nat) (M : Mm) (I : LI σ δ pg pn tr M) (K : ∀ M' σ' δ' pg' pn' tr' k' sl', LI σ' δ' pg' pn' tr' M' → tr' ≤ tr + 1 → k' ≤ k + 8 → sl' ≤ sl + 24 → Vj x g yL_law cL_law 4 (some .boolean) room_1 Q k' sl' M' 921 [(0, some (.ref b)), (1, some (.ref (g.1 + 0))), (2, some (.ref (g.1 + 44))), (3, some (.int (nI i)))] []) (n : Nat) (rw' : Rw) (hps : psR pg pn = some (4, n, rw')) : Vj x g yL_law cL_law 4 (some .boolean) room_1 Q k sl M 235 [(0, some (.ref b)), (1, some (.ref (g.1 + 0))), (2, some (.ref (g.1 + 44))), (3, some (.int (nI i)))] [] := by
  obtain ⟨CC, RR, E⟩ := I
  have hs := CC.1
  have hn8 : n ≤ 8 := ((psR_PW hps).2.1 rfl).2
  refine r_aload_n dL_law_235 rfl ?_
  refine r_cV0i cvL_29 (kX8_contracts g M σ δ CC pg pn E.1.1 E.1.2.2.1 (fun k hk => (E.1.2.2.2 k hk).1) (fun k hk => (E.1.2.2.2 k hk).2.2) n (Or.inl ⟨n, rw', hps, rfl⟩)) (hs.lt (by decide)) (hs.T 0 rfl) ⟨Nat.le_of_ble_eq_true rfl, Nat.le_of_ble_eq_true rfl⟩ (Nat.le_of_ble_eq_true rfl) ⟨by show k + n ≤ 600000; omega, by show sl + 3 * n ≤ 7302250; omega⟩ dL_law_236 (fun r1 M1 h1 => ?_)
  obtain ⟨q1, d1, f1, p1, t1, e1⟩ := h1.1 n rw' hps
  have hs1 := d1.1
  have hb1 : ∀ c, c < 59 → c ∉ [0, 1, 3, 4, 5, 6, 7, 16, 17] → mI M1 c = mI M c := fun c hc hn => f1.2.2.2.1 c (hs.lt hc) hn
  have n44 : mI M1 44 = mI M 44 := hb1 44 (by decide) (by decide)
  have RR1 : RA σ δ M1 := RR.eqM hs1 n44 (hb1 47 (by decide) (by decide)) (hb1 48 (by decide) (by decide)) (hb1 49 (by decide) (by decide)) (hb1 50 (by decide) (by decide))
  refine r_aload_n dL_law_239 rfl ?_
  refine r_cV0i cvL_32 (kX9_contracts g M1 σ δ RR1 pg pn (by rw [n44]; exact E.1.2.1) E.1.2.2.1 (fun k hk => by rw [hb1 45 (by decide) (by decide)]; exact (E.1.2.2.2 k hk).2.1)) (hs1.lt (by decide)) (hs1.T 44 rfl) ⟨Nat.le_of_ble_eq_true rfl, Nat.le_of_ble_eq_true rfl⟩ (Nat.le_of_ble_eq_true rfl) ⟨by show k + n + 0 ≤ 600000; omega, by show sl + 3 * n + 0 ≤ 7302250; omega⟩ dL_law_240 (fun r2 M2 h2 => ?_)
  obtain ⟨q2, d2, f2, p2, t2, e2⟩ := h2.1 n rw' hps
  have hs2 := hs1.fr f2
  have CC2 := d1.fr f2 (by intro a ha; simp [cF] at ha; (try unfold okK); omega)
  have m0 : ∀ c, c ≠ 44 → c ≠ 46 → c ≠ 47 → c ≠ 48 → mI M2 c = mI M1 c := fun c a b d e => f2.2.1 c (by simp; exact ⟨a, b, d, e⟩)
  have im : IMs σ tr M2 := E.2.2.kp (fun k a b => by rw [m0 0 (by decide) (by decide) (by decide) (by decide)]; exact e1 k (by omega) (by omega)) (fun c a b => (m0 c (by omega) (by omega) (by omega) (by omega)).trans (hb1 c (by omega) (by simp; omega))) (fun k a b => by rw [e2 k (by omega) (by omega) (by omega) (by omega) (by omega) (by omega), n44]) ⟨(m0 56 (by decide) (by decide) (by decide) (by decide)).trans (hb1 56 (by decide) (by decide)), (m0 57 (by decide) (by decide) (by decide) (by decide)).trans (hb1 57 (by decide) (by decide)), (m0 58 (by decide) (by decide) (by decide) (by decide)).trans (hb1 58 (by decide) (by decide))⟩
  have EE2 : EX (conS σ n rw') pg 0 (tr + 1) M2 := ⟨⟨by rw [m0 1 (by decide) (by decide) (by decide) (by decide), p1]; rfl, by rw [p2]; rfl, by omega, fun k hk => absurd hk (Nat.not_lt_zero k)⟩, ⟨by rw [m0 0 (by decide) (by decide) (by decide) (by decide), t1, E.2.1.1]; exact nI_1 _, by rw [t2, n44, E.2.1.2]; exact nI_1 _⟩, im.con⟩
  refine r_icmp_eq 921 dL_law_243 (by decide) (fun c243 => ?_) (fun c243 => ?_)
  · skip
    exact K _ _ _ pg 0 (tr + 1) _ _ ⟨CC2, d2, EE2⟩ (by omega) (by show k + n + 0 ≤ _; omega) (by show sl + 3 * n + 0 ≤ _; omega)
  · skip
    exact absurd (q1.trans q2.symm) c243
set_option maxHeartbeats 4000000 in
set_option maxRecDepth 100000 in
theorem lc_contractsB (g : Gx) (x : Cx) (Q : State → Prop) (b L : Nat) (zs : Nat → Int32) (hX : va_X b L zs x.2.2.2.1 x.2.2.2.1.heap) (hb : b < x.2.2.2.1.heap.size) (hg : b < g.1) (hL : L ≤ 2560) (i : Nat) (hi : i + 5 ≤ L) (k sl : Nat) (hk : k + 8 ≤ 600000) (hsl : sl + 24 ≤ 7302250) (σ : Ab) (δ : Dy) (pg : Rw) (pn tr : Nat) (M : Mm) (I : LI σ δ pg pn tr M) (K : ∀ M' σ' δ' pg' pn' tr' k' sl', LI σ' δ' pg' pn' tr' M' → tr' ≤ tr + 1 → k' ≤ k + 8 → sl' ≤ sl + 24 → Vj x g yL_law cL_law 4 (some .boolean) room_1 Q k' sl' M' 921 [(0, some (.ref b)), (1, some (.ref (g.1 + 0))), (2, some (.ref (g.1 + 44))), (3, some (.int (nI i)))] []) (hps : ¬ ∃ n rw', psR pg pn = some (4, n, rw')) : Vj x g yL_law cL_law 4 (some .boolean) room_1 Q k sl M 235 [(0, some (.ref b)), (1, some (.ref (g.1 + 0))), (2, some (.ref (g.1 + 44))), (3, some (.int (nI i)))] [] := by
  obtain ⟨CC, RR, E⟩ := I
  have hs := CC.1
  refine r_aload_n dL_law_235 rfl ?_
  refine r_cV0i cvL_29 (kX8_contracts g M σ δ CC pg pn E.1.1 E.1.2.2.1 (fun k hk => (E.1.2.2.2 k hk).1) (fun k hk => (E.1.2.2.2 k hk).2.2) 0 (Or.inr ⟨hps, rfl⟩)) (hs.lt (by decide)) (hs.T 0 rfl) ⟨Nat.le_of_ble_eq_true rfl, Nat.le_of_ble_eq_true rfl⟩ (Nat.le_of_ble_eq_true rfl) ⟨by show k + 0 ≤ 600000; omega, by show sl + 3 * 0 ≤ 7302250; omega⟩ dL_law_236 (fun r1 M1 h1 => ?_)
  obtain ⟨q1, f1⟩ := h1.2 hps
  have hs1 := hs.fr f1
  have RR1 : RA σ δ M1 := RR.fr f1 (by intro a ha; simp [cF] at ha; (try unfold okK); omega)
  have CC1 : CA σ δ M1 := CC.fr f1 (by intro a ha; simp [cF] at ha; (try unfold okK); omega)
  have EE1 := E.keep (KC.fr f1 (by intro a ha; simp [cF] at ha; (try unfold okK); omega)) (KR.fr f1 (by intro a ha; simp [cF] at ha; (try unfold okK); omega))
  refine r_aload_n dL_law_239 rfl ?_
  refine r_cV0i cvL_32 (kX9_contracts g M1 σ δ RR1 pg pn EE1.1.2.1 EE1.1.2.2.1 (fun k hk => (EE1.1.2.2.2 k hk).2.1)) (hs1.lt (by decide)) (hs1.T 44 rfl) ⟨Nat.le_of_ble_eq_true rfl, Nat.le_of_ble_eq_true rfl⟩ (Nat.le_of_ble_eq_true rfl) ⟨by show k + 0 + 0 ≤ 600000; omega, by show sl + 3 * 0 + 0 ≤ 7302250; omega⟩ dL_law_240 (fun r2 M2 h2 => ?_)
  obtain ⟨q2, f2, e2⟩ := h2.2 hps
  have hs2 := hs1.fr f2
  have CC2 := CC1.fr f2 (by intro a ha; simp [cF] at ha; (try unfold okK); omega)
  have RR2 : RA σ δ M2 := RR1.f44 f2 (by intro a ha; simp [cF] at ha; (try unfold okK); omega) (fun k hk => e2 k (by omega) (by omega))
  have EE2 := EE1.keep (KC.fr f2 (by intro a ha; simp [cF] at ha; (try unfold okK); omega)) (KR.f44 f2 (by intro a ha; simp [cF] at ha; (try unfold okK); omega) (fun k hk => e2 k (by omega) (by omega)))
  refine r_icmp_eq 921 dL_law_243 (by decide) (fun c243 => ?_) (fun c243 => ?_)
  · skip
    exact K _ _ _ pg pn tr _ _ ⟨CC2, RR2, EE2⟩ (by omega) (by show k + 0 + 0 ≤ _; omega) (by show sl + 3 * 0 + 0 ≤ _; omega)
  · skip
    exact absurd (q1.trans q2.symm) c243
theorem lc_contracts (g : Gx) (x : Cx) (Q : State → Prop) (b L : Nat) (zs : Nat → Int32) (hX : va_X b L zs x.2.2.2.1 x.2.2.2.1.heap) (hb : b < x.2.2.2.1.heap.size) (hg : b < g.1) (hL : L ≤ 2560) (i : Nat) (hi : i + 5 ≤ L) (k sl : Nat) (hk : k + 8 ≤ 600000) (hsl : sl + 24 ≤ 7302250) (σ : Ab) (δ : Dy) (pg : Rw) (pn tr : Nat) (M : Mm) (I : LI σ δ pg pn tr M) (K : ∀ M' σ' δ' pg' pn' tr' k' sl', LI σ' δ' pg' pn' tr' M' → tr' ≤ tr + 1 → k' ≤ k + 8 → sl' ≤ sl + 24 → Vj x g yL_law cL_law 4 (some .boolean) room_1 Q k' sl' M' 921 [(0, some (.ref b)), (1, some (.ref (g.1 + 0))), (2, some (.ref (g.1 + 44))), (3, some (.int (nI i)))] []) : Vj x g yL_law cL_law 4 (some .boolean) room_1 Q k sl M 235 [(0, some (.ref b)), (1, some (.ref (g.1 + 0))), (2, some (.ref (g.1 + 44))), (3, some (.int (nI i)))] [] := by
  by_cases h : ∃ n rw', psR pg pn = some (4, n, rw')
  · obtain ⟨n, rw', hps⟩ := h
    exact lc_contractsA g x Q b L zs hX hb hg hL i hi k sl hk hsl σ δ pg pn tr M I K n rw' hps
  · exact lc_contractsB g x Q b L zs hX hb hg hL i hi k sl hk hsl σ δ pg pn tr M I K h
