/-! the law's cases -/
theorem sx {i c L : Nat} (h : i + c < L) (hL : L ≤ 2560) : vp_in (nI i + nI c) L ∧ (nI i + nI c).toNatClampNeg = i + c := by
  rw [nI_add]
  exact ⟨vp_in_nI h (by omega), nI_clamp (by omega)⟩
set_option maxHeartbeats 4000000 in
set_option maxRecDepth 100000 in
theorem lc_about (g : Gx) (x : Cx) (Q : State → Prop) (b L : Nat) (zs : Nat → Int32) (hX : va_X b L zs x.2.2.2.1 x.2.2.2.1.heap) (hb : b < x.2.2.2.1.heap.size) (hg : b < g.1) (hL : L ≤ 2560) (i : Nat) (hi : i + 5 ≤ L) (k sl : Nat) (hk : k + 8 ≤ 600000) (hsl : sl + 24 ≤ 7302250) (σ : Ab) (δ : Dy) (pg : Rw) (pn tr : Nat) (M : Mm) (I : LI σ δ pg pn tr M) (K : ∀ M' σ' δ' pg' pn' tr' k' sl', LI σ' δ' pg' pn' tr' M' → tr' ≤ tr + 1 → k' ≤ k + 8 → sl' ≤ sl + 24 → Vj x g yL_law cL_law 4 (some .boolean) room_1 Q k' sl' M' 921 [(0, some (.ref b)), (1, some (.ref (g.1 + 0))), (2, some (.ref (g.1 + 44))), (3, some (.int (nI i)))] []) : Vj x g yL_law cL_law 4 (some .boolean) room_1 Q k sl M 248 [(0, some (.ref b)), (1, some (.ref (g.1 + 0))), (2, some (.ref (g.1 + 44))), (3, some (.int (nI i)))] [] := by
  obtain ⟨CC, RR, E⟩ := I
  have hs := CC.1
  refine r_aload_n dL_law_248 rfl ?_
  refine r_aload_n dL_law_249 rfl ?_
  refine r_iload_n dL_law_250 rfl ?_
  refine r_iconst (v := 1) dL_law_251 (by decide) ?_
  refine r_iadd dL_law_252 ?_
  refine r_sld hX hb hg (sx (c := 1) (by omega) hL).1 dL_law_253 ?_
  rw [show (nI i + 1).toNatClampNeg = i + 1 from (sx (i := i) (c := 1) (by omega) hL).2]
  refine r_aload_n dL_law_254 rfl ?_
  refine r_iload_n dL_law_255 rfl ?_
  refine r_iconst (v := 2) dL_law_256 (by decide) ?_
  refine r_iadd dL_law_257 ?_
  refine r_sld hX hb hg (sx (c := 2) (by omega) hL).1 dL_law_258 ?_
  rw [show (nI i + 2).toNatClampNeg = i + 2 from (sx (i := i) (c := 2) (by omega) hL).2]
  refine r_cV2i cvL_33 (kX8_about g M σ δ CC (zs (i + 1)) (zs (i + 2))) (hs.lt (by decide)) (hs.T 0 rfl) ⟨Nat.le_of_ble_eq_true rfl, Nat.le_of_ble_eq_true rfl⟩ (Nat.le_of_ble_eq_true rfl) ⟨by show k + 0 ≤ 600000; omega, by show sl + 0 ≤ 7302250; omega⟩ dL_law_259 (fun r1 M1 h1 => ?_)
  obtain ⟨e1, h1⟩ := h1
  replace e1 := e1.symm
  subst e1
  refine r_aload_n dL_law_262 rfl ?_
  refine r_aload_n dL_law_263 rfl ?_
  refine r_iload_n dL_law_264 rfl ?_
  refine r_iconst (v := 1) dL_law_265 (by decide) ?_
  refine r_iadd dL_law_266 ?_
  refine r_sld hX hb hg (sx (c := 1) (by omega) hL).1 dL_law_267 ?_
  rw [show (nI i + 1).toNatClampNeg = i + 1 from (sx (i := i) (c := 1) (by omega) hL).2]
  refine r_aload_n dL_law_268 rfl ?_
  refine r_iload_n dL_law_269 rfl ?_
  refine r_iconst (v := 2) dL_law_270 (by decide) ?_
  refine r_iadd dL_law_271 ?_
  refine r_sld hX hb hg (sx (c := 2) (by omega) hL).1 dL_law_272 ?_
  rw [show (nI i + 2).toNatClampNeg = i + 2 from (sx (i := i) (c := 2) (by omega) hL).2]
  refine r_cV2i cvL_37 (kX9_about g M σ δ RR (zs (i + 1)) (zs (i + 2))) (hs.lt (by decide)) (hs.T 44 rfl) ⟨Nat.le_of_ble_eq_true rfl, Nat.le_of_ble_eq_true rfl⟩ (Nat.le_of_ble_eq_true rfl) ⟨by show k + 0 ≤ 600000; omega, by show sl + 0 ≤ 7302250; omega⟩ dL_law_273 (fun r2 M2 h2 => ?_)
  obtain ⟨e2, h2⟩ := h2
  replace e2 := e2.symm
  subst e2
  refine r_icmp_eq 921 dL_law_276 (by decide) (fun c276 => ?_) (fun c276 => ?_)
  · skip
    exact K _ σ δ pg pn tr _ _ ⟨CC, RR, E⟩ (by omega) (by show k + 0 + 0 ≤ _; omega) (by show sl + 0 + 0 ≤ _; omega)
  · skip
    exact absurd (h1.trans h2.symm) c276
set_option maxHeartbeats 4000000 in
set_option maxRecDepth 100000 in
theorem lc_as (g : Gx) (x : Cx) (Q : State → Prop) (b L : Nat) (zs : Nat → Int32) (hX : va_X b L zs x.2.2.2.1 x.2.2.2.1.heap) (hb : b < x.2.2.2.1.heap.size) (hg : b < g.1) (hL : L ≤ 2560) (i : Nat) (hi : i + 5 ≤ L) (k sl : Nat) (hk : k + 8 ≤ 600000) (hsl : sl + 24 ≤ 7302250) (σ : Ab) (δ : Dy) (pg : Rw) (pn tr : Nat) (M : Mm) (I : LI σ δ pg pn tr M) (K : ∀ M' σ' δ' pg' pn' tr' k' sl', LI σ' δ' pg' pn' tr' M' → tr' ≤ tr + 1 → k' ≤ k + 8 → sl' ≤ sl + 24 → Vj x g yL_law cL_law 4 (some .boolean) room_1 Q k' sl' M' 921 [(0, some (.ref b)), (1, some (.ref (g.1 + 0))), (2, some (.ref (g.1 + 44))), (3, some (.int (nI i)))] []) : Vj x g yL_law cL_law 4 (some .boolean) room_1 Q k sl M 281 [(0, some (.ref b)), (1, some (.ref (g.1 + 0))), (2, some (.ref (g.1 + 44))), (3, some (.int (nI i)))] [] := by
  obtain ⟨CC, RR, E⟩ := I
  have hs := CC.1
  refine r_aload_n dL_law_281 rfl ?_
  refine r_aload_n dL_law_282 rfl ?_
  refine r_iload_n dL_law_283 rfl ?_
  refine r_iconst (v := 1) dL_law_284 (by decide) ?_
  refine r_iadd dL_law_285 ?_
  refine r_sld hX hb hg (sx (c := 1) (by omega) hL).1 dL_law_286 ?_
  rw [show (nI i + 1).toNatClampNeg = i + 1 from (sx (i := i) (c := 1) (by omega) hL).2]
  refine r_aload_n dL_law_287 rfl ?_
  refine r_iload_n dL_law_288 rfl ?_
  refine r_iconst (v := 2) dL_law_289 (by decide) ?_
  refine r_iadd dL_law_290 ?_
  refine r_sld hX hb hg (sx (c := 2) (by omega) hL).1 dL_law_291 ?_
  rw [show (nI i + 2).toNatClampNeg = i + 2 from (sx (i := i) (c := 2) (by omega) hL).2]
  refine r_cV2i cvL_38 (kX8_as g M σ δ CC (zs (i + 1)) (zs (i + 2))) (hs.lt (by decide)) (hs.T 0 rfl) ⟨Nat.le_of_ble_eq_true rfl, Nat.le_of_ble_eq_true rfl⟩ (Nat.le_of_ble_eq_true rfl) ⟨by show k + 0 ≤ 600000; omega, by show sl + 0 ≤ 7302250; omega⟩ dL_law_292 (fun r1 M1 h1 => ?_)
  obtain ⟨e1, h1⟩ := h1
  replace e1 := e1.symm
  subst e1
  refine r_aload_n dL_law_295 rfl ?_
  refine r_aload_n dL_law_296 rfl ?_
  refine r_iload_n dL_law_297 rfl ?_
  refine r_iconst (v := 1) dL_law_298 (by decide) ?_
  refine r_iadd dL_law_299 ?_
  refine r_sld hX hb hg (sx (c := 1) (by omega) hL).1 dL_law_300 ?_
  rw [show (nI i + 1).toNatClampNeg = i + 1 from (sx (i := i) (c := 1) (by omega) hL).2]
  refine r_aload_n dL_law_301 rfl ?_
  refine r_iload_n dL_law_302 rfl ?_
  refine r_iconst (v := 2) dL_law_303 (by decide) ?_
  refine r_iadd dL_law_304 ?_
  refine r_sld hX hb hg (sx (c := 2) (by omega) hL).1 dL_law_305 ?_
  rw [show (nI i + 2).toNatClampNeg = i + 2 from (sx (i := i) (c := 2) (by omega) hL).2]
  refine r_cV2i cvL_41 (kX9_as g M σ δ RR (zs (i + 1)) (zs (i + 2))) (hs.lt (by decide)) (hs.T 44 rfl) ⟨Nat.le_of_ble_eq_true rfl, Nat.le_of_ble_eq_true rfl⟩ (Nat.le_of_ble_eq_true rfl) ⟨by show k + 0 ≤ 600000; omega, by show sl + 0 ≤ 7302250; omega⟩ dL_law_306 (fun r2 M2 h2 => ?_)
  obtain ⟨e2, h2⟩ := h2
  replace e2 := e2.symm
  subst e2
  refine r_icmp_eq 921 dL_law_309 (by decide) (fun c309 => ?_) (fun c309 => ?_)
  · skip
    exact K _ σ δ pg pn tr _ _ ⟨CC, RR, E⟩ (by omega) (by show k + 0 + 0 ≤ _; omega) (by show sl + 0 + 0 ≤ _; omega)
  · skip
    exact absurd (h1.trans h2.symm) c309
set_option maxHeartbeats 4000000 in
set_option maxRecDepth 100000 in
theorem lc_silver (g : Gx) (x : Cx) (Q : State → Prop) (b L : Nat) (zs : Nat → Int32) (hX : va_X b L zs x.2.2.2.1 x.2.2.2.1.heap) (hb : b < x.2.2.2.1.heap.size) (hg : b < g.1) (hL : L ≤ 2560) (i : Nat) (hi : i + 5 ≤ L) (k sl : Nat) (hk : k + 8 ≤ 600000) (hsl : sl + 24 ≤ 7302250) (σ : Ab) (δ : Dy) (pg : Rw) (pn tr : Nat) (M : Mm) (I : LI σ δ pg pn tr M) (K : ∀ M' σ' δ' pg' pn' tr' k' sl', LI σ' δ' pg' pn' tr' M' → tr' ≤ tr + 1 → k' ≤ k + 8 → sl' ≤ sl + 24 → Vj x g yL_law cL_law 4 (some .boolean) room_1 Q k' sl' M' 921 [(0, some (.ref b)), (1, some (.ref (g.1 + 0))), (2, some (.ref (g.1 + 44))), (3, some (.int (nI i)))] []) : Vj x g yL_law cL_law 4 (some .boolean) room_1 Q k sl M 511 [(0, some (.ref b)), (1, some (.ref (g.1 + 0))), (2, some (.ref (g.1 + 44))), (3, some (.int (nI i)))] [] := by
  obtain ⟨CC, RR, E⟩ := I
  have hs := CC.1
  refine r_aload_n dL_law_511 rfl ?_
  refine r_aload_n dL_law_512 rfl ?_
  refine r_iload_n dL_law_513 rfl ?_
  refine r_iconst (v := 1) dL_law_514 (by decide) ?_
  refine r_iadd dL_law_515 ?_
  refine r_sld hX hb hg (sx (c := 1) (by omega) hL).1 dL_law_516 ?_
  rw [show (nI i + 1).toNatClampNeg = i + 1 from (sx (i := i) (c := 1) (by omega) hL).2]
  refine r_aload_n dL_law_517 rfl ?_
  refine r_iload_n dL_law_518 rfl ?_
  refine r_iconst (v := 2) dL_law_519 (by decide) ?_
  refine r_iadd dL_law_520 ?_
  refine r_sld hX hb hg (sx (c := 2) (by omega) hL).1 dL_law_521 ?_
  rw [show (nI i + 2).toNatClampNeg = i + 2 from (sx (i := i) (c := 2) (by omega) hL).2]
  refine r_cV2i cvL_63 (kX8_silver g M σ δ CC (zs (i + 1)) (zs (i + 2))) (hs.lt (by decide)) (hs.T 0 rfl) ⟨Nat.le_of_ble_eq_true rfl, Nat.le_of_ble_eq_true rfl⟩ (Nat.le_of_ble_eq_true rfl) ⟨by show k + 0 ≤ 600000; omega, by show sl + 0 ≤ 7302250; omega⟩ dL_law_522 (fun r1 M1 h1 => ?_)
  obtain ⟨e1, h1⟩ := h1
  replace e1 := e1.symm
  subst e1
  refine r_aload_n dL_law_525 rfl ?_
  refine r_aload_n dL_law_526 rfl ?_
  refine r_iload_n dL_law_527 rfl ?_
  refine r_iconst (v := 1) dL_law_528 (by decide) ?_
  refine r_iadd dL_law_529 ?_
  refine r_sld hX hb hg (sx (c := 1) (by omega) hL).1 dL_law_530 ?_
  rw [show (nI i + 1).toNatClampNeg = i + 1 from (sx (i := i) (c := 1) (by omega) hL).2]
  refine r_aload_n dL_law_531 rfl ?_
  refine r_iload_n dL_law_532 rfl ?_
  refine r_iconst (v := 2) dL_law_533 (by decide) ?_
  refine r_iadd dL_law_534 ?_
  refine r_sld hX hb hg (sx (c := 2) (by omega) hL).1 dL_law_535 ?_
  rw [show (nI i + 2).toNatClampNeg = i + 2 from (sx (i := i) (c := 2) (by omega) hL).2]
  refine r_cV2i cvL_66 (kX9_silver g M σ δ RR (zs (i + 1)) (zs (i + 2))) (hs.lt (by decide)) (hs.T 44 rfl) ⟨Nat.le_of_ble_eq_true rfl, Nat.le_of_ble_eq_true rfl⟩ (Nat.le_of_ble_eq_true rfl) ⟨by show k + 0 ≤ 600000; omega, by show sl + 0 ≤ 7302250; omega⟩ dL_law_536 (fun r2 M2 h2 => ?_)
  obtain ⟨e2, h2⟩ := h2
  replace e2 := e2.symm
  subst e2
  refine r_icmp_eq 921 dL_law_539 (by decide) (fun c539 => ?_) (fun c539 => ?_)
  · skip
    exact K _ σ δ pg pn tr _ _ ⟨CC, RR, E⟩ (by omega) (by show k + 0 + 0 ≤ _; omega) (by show sl + 0 + 0 ≤ _; omega)
  · skip
    exact absurd (h1.trans h2.symm) c539
set_option maxHeartbeats 4000000 in
set_option maxRecDepth 100000 in
theorem lc_worth (g : Gx) (x : Cx) (Q : State → Prop) (b L : Nat) (zs : Nat → Int32) (hX : va_X b L zs x.2.2.2.1 x.2.2.2.1.heap) (hb : b < x.2.2.2.1.heap.size) (hg : b < g.1) (hL : L ≤ 2560) (i : Nat) (hi : i + 5 ≤ L) (k sl : Nat) (hk : k + 8 ≤ 600000) (hsl : sl + 24 ≤ 7302250) (σ : Ab) (δ : Dy) (pg : Rw) (pn tr : Nat) (M : Mm) (I : LI σ δ pg pn tr M) (K : ∀ M' σ' δ' pg' pn' tr' k' sl', LI σ' δ' pg' pn' tr' M' → tr' ≤ tr + 1 → k' ≤ k + 8 → sl' ≤ sl + 24 → Vj x g yL_law cL_law 4 (some .boolean) room_1 Q k' sl' M' 921 [(0, some (.ref b)), (1, some (.ref (g.1 + 0))), (2, some (.ref (g.1 + 44))), (3, some (.int (nI i)))] []) : Vj x g yL_law cL_law 4 (some .boolean) room_1 Q k sl M 544 [(0, some (.ref b)), (1, some (.ref (g.1 + 0))), (2, some (.ref (g.1 + 44))), (3, some (.int (nI i)))] [] := by
  obtain ⟨CC, RR, E⟩ := I
  have hs := CC.1
  refine r_aload_n dL_law_544 rfl ?_
  refine r_aload_n dL_law_545 rfl ?_
  refine r_iload_n dL_law_546 rfl ?_
  refine r_iconst (v := 1) dL_law_547 (by decide) ?_
  refine r_iadd dL_law_548 ?_
  refine r_sld hX hb hg (sx (c := 1) (by omega) hL).1 dL_law_549 ?_
  rw [show (nI i + 1).toNatClampNeg = i + 1 from (sx (i := i) (c := 1) (by omega) hL).2]
  refine r_cV1i cvL_67 (kX8_worth g M σ δ CC (zs (i + 1))) (hs.lt (by decide)) (hs.T 0 rfl) ⟨Nat.le_of_ble_eq_true rfl, Nat.le_of_ble_eq_true rfl⟩ (Nat.le_of_ble_eq_true rfl) ⟨by show k + 0 ≤ 600000; omega, by show sl + 0 ≤ 7302250; omega⟩ dL_law_550 (fun r1 M1 h1 => ?_)
  obtain ⟨e1, h1⟩ := h1
  replace e1 := e1.symm
  subst e1
  refine r_aload_n dL_law_553 rfl ?_
  refine r_aload_n dL_law_554 rfl ?_
  refine r_iload_n dL_law_555 rfl ?_
  refine r_iconst (v := 1) dL_law_556 (by decide) ?_
  refine r_iadd dL_law_557 ?_
  refine r_sld hX hb hg (sx (c := 1) (by omega) hL).1 dL_law_558 ?_
  rw [show (nI i + 1).toNatClampNeg = i + 1 from (sx (i := i) (c := 1) (by omega) hL).2]
  refine r_cV1i cvL_71 (kX9_worth g M σ δ RR (zs (i + 1))) (hs.lt (by decide)) (hs.T 44 rfl) ⟨Nat.le_of_ble_eq_true rfl, Nat.le_of_ble_eq_true rfl⟩ (Nat.le_of_ble_eq_true rfl) ⟨by show k + 0 ≤ 600000; omega, by show sl + 0 ≤ 7302250; omega⟩ dL_law_559 (fun r2 M2 h2 => ?_)
  obtain ⟨e2, h2⟩ := h2
  replace e2 := e2.symm
  subst e2
  refine r_icmp_eq 921 dL_law_562 (by decide) (fun c562 => ?_) (fun c562 => ?_)
  · skip
    exact K _ σ δ pg pn tr _ _ ⟨CC, RR, E⟩ (by omega) (by show k + 0 + 0 ≤ _; omega) (by show sl + 0 + 0 ≤ _; omega)
  · skip
    exact absurd (h1.trans h2.symm) c562
set_option maxHeartbeats 4000000 in
set_option maxRecDepth 100000 in
theorem lc_owes (g : Gx) (x : Cx) (Q : State → Prop) (b L : Nat) (zs : Nat → Int32) (hX : va_X b L zs x.2.2.2.1 x.2.2.2.1.heap) (hb : b < x.2.2.2.1.heap.size) (hg : b < g.1) (hL : L ≤ 2560) (i : Nat) (hi : i + 5 ≤ L) (k sl : Nat) (hk : k + 8 ≤ 600000) (hsl : sl + 24 ≤ 7302250) (σ : Ab) (δ : Dy) (pg : Rw) (pn tr : Nat) (M : Mm) (I : LI σ δ pg pn tr M) (K : ∀ M' σ' δ' pg' pn' tr' k' sl', LI σ' δ' pg' pn' tr' M' → tr' ≤ tr + 1 → k' ≤ k + 8 → sl' ≤ sl + 24 → Vj x g yL_law cL_law 4 (some .boolean) room_1 Q k' sl' M' 921 [(0, some (.ref b)), (1, some (.ref (g.1 + 0))), (2, some (.ref (g.1 + 44))), (3, some (.int (nI i)))] []) : Vj x g yL_law cL_law 4 (some .boolean) room_1 Q k sl M 769 [(0, some (.ref b)), (1, some (.ref (g.1 + 0))), (2, some (.ref (g.1 + 44))), (3, some (.int (nI i)))] [] := by
  obtain ⟨CC, RR, E⟩ := I
  have hs := CC.1
  refine r_aload_n dL_law_769 rfl ?_
  refine r_aload_n dL_law_770 rfl ?_
  refine r_iload_n dL_law_771 rfl ?_
  refine r_iconst (v := 1) dL_law_772 (by decide) ?_
  refine r_iadd dL_law_773 ?_
  refine r_sld hX hb hg (sx (c := 1) (by omega) hL).1 dL_law_774 ?_
  rw [show (nI i + 1).toNatClampNeg = i + 1 from (sx (i := i) (c := 1) (by omega) hL).2]
  refine r_aload_n dL_law_775 rfl ?_
  refine r_iload_n dL_law_776 rfl ?_
  refine r_iconst (v := 2) dL_law_777 (by decide) ?_
  refine r_iadd dL_law_778 ?_
  refine r_sld hX hb hg (sx (c := 2) (by omega) hL).1 dL_law_779 ?_
  rw [show (nI i + 2).toNatClampNeg = i + 2 from (sx (i := i) (c := 2) (by omega) hL).2]
  refine r_cV2i cvL_102 (kX8_owes g M σ δ CC (zs (i + 1)) (zs (i + 2))) (hs.lt (by decide)) (hs.T 0 rfl) ⟨Nat.le_of_ble_eq_true rfl, Nat.le_of_ble_eq_true rfl⟩ (Nat.le_of_ble_eq_true rfl) ⟨by show k + 0 ≤ 600000; omega, by show sl + 0 ≤ 7302250; omega⟩ dL_law_780 (fun r1 M1 h1 => ?_)
  obtain ⟨e1, h1⟩ := h1
  replace e1 := e1.symm
  subst e1
  refine r_aload_n dL_law_783 rfl ?_
  refine r_aload_n dL_law_784 rfl ?_
  refine r_iload_n dL_law_785 rfl ?_
  refine r_iconst (v := 1) dL_law_786 (by decide) ?_
  refine r_iadd dL_law_787 ?_
  refine r_sld hX hb hg (sx (c := 1) (by omega) hL).1 dL_law_788 ?_
  rw [show (nI i + 1).toNatClampNeg = i + 1 from (sx (i := i) (c := 1) (by omega) hL).2]
  refine r_aload_n dL_law_789 rfl ?_
  refine r_iload_n dL_law_790 rfl ?_
  refine r_iconst (v := 2) dL_law_791 (by decide) ?_
  refine r_iadd dL_law_792 ?_
  refine r_sld hX hb hg (sx (c := 2) (by omega) hL).1 dL_law_793 ?_
  rw [show (nI i + 2).toNatClampNeg = i + 2 from (sx (i := i) (c := 2) (by omega) hL).2]
  refine r_cV2i cvL_105 (kX9_owes g M σ δ RR (zs (i + 1)) (zs (i + 2))) (hs.lt (by decide)) (hs.T 44 rfl) ⟨Nat.le_of_ble_eq_true rfl, Nat.le_of_ble_eq_true rfl⟩ (Nat.le_of_ble_eq_true rfl) ⟨by show k + 0 ≤ 600000; omega, by show sl + 0 ≤ 7302250; omega⟩ dL_law_794 (fun r2 M2 h2 => ?_)
  obtain ⟨e2, h2⟩ := h2
  replace e2 := e2.symm
  subst e2
  refine r_icmp_eq 921 dL_law_797 (by decide) (fun c797 => ?_) (fun c797 => ?_)
  · skip
    exact K _ σ δ pg pn tr _ _ ⟨CC, RR, E⟩ (by omega) (by show k + 0 + 0 ≤ _; omega) (by show sl + 0 + 0 ≤ _; omega)
  · skip
    exact absurd (h1.trans h2.symm) c797
