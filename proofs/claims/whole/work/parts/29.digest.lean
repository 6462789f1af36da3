/-! the digest -/
def wiL (h : Int64) (v : Int32) : Int64 := 31 * h + v.toInt64
def dgA (σ : Ab) (δ : Dy) (t : Nat) (h : Int64) : Nat → Int64
  | 0 => h
  | q + 1 => wiL (dgA σ δ t h q) (aboutR σ δ (nI t) (nI q))
def dgT (σ : Ab) (δ : Dy) (h : Int64) : Nat → Int64
  | 0 => h
  | t + 1 => dgA σ δ t (dgT σ δ h t) 6
def dgH (σ : Ab) (δ : Dy) (h : Int64) : Nat → Int64
  | 0 => h
  | q + 1 => wiL (wiL (wiL (dgH σ δ h q) (yl δ q)) (yd δ q)) (inH σ (yp δ) (nI q))
def dgZ (σ : Ab) (δ : Dy) (s : Nat) (h : Int64) : Nat → Int64
  | 0 => h
  | q + 1 => wiL (dgZ σ δ s h q) (silR σ δ (nI s) (nI q))
def dgS (σ : Ab) (δ : Dy) (h : Int64) : Nat → Int64
  | 0 => h
  | s + 1 => dgZ σ δ s (dgS σ δ h s) 4
noncomputable def dgO (σ : Ab) (δ : Dy) (h : Int64) : Nat → Int64
  | 0 => wiL (wiL h (stiR σ δ)) (whoR σ δ)
  | q + 1 => wiL (wiL (dgO σ δ h q) (bsF σ δ (nI q) 3 (2 ^ zN σ)).2) (nI (bsF σ δ (nI q) 3 (2 ^ zN σ)).1)
def dgP (pg : Rw) (h : Int64) : Nat → Int64
  | 0 => h
  | q + 1 => wiL (dgP pg h q) (pg q)
def cntR (σ : Ab) (δ : Dy) (pn tr v : Int32) : Int32 := if v = 0 then nI (zN σ) else if v = 1 then nI (zS σ) else if v = 2 then ym δ else if v = 3 then yf δ else if v = 4 then pn else if v = 5 then awaF σ (yp δ) else if v = 6 then tr else -102
def dgC (σ : Ab) (δ : Dy) (pn tr : Int32) (h : Int64) : Nat → Int64
  | 0 => h
  | q + 1 => wiL (dgC σ δ pn tr h q) (cntR σ δ pn tr (nI q))
noncomputable def dgE (σ : Ab) (δ : Dy) (F : Int32) : Int64 := wiL (dgS σ δ (dgH σ δ (dgT σ δ 673 (zN σ)) 8) (zS σ)) F
noncomputable def dgG (σ : Ab) (δ : Dy) (F : Int32) : Int64 := if zN σ = 0 then dgE σ δ F else dgO σ δ (dgE σ δ F) 8
noncomputable def digR (σ : Ab) (δ : Dy) (F : Int32) (pg : Rw) (pn : Nat) (tr : Int32) : Int64 := dgC σ δ (nI pn) tr (dgP pg (dgG σ δ F) pn) 7
theorem lp_le {v b : Int32} {i n : Nat} (hv : v = nI i) (hb : b = nI n) (h : ¬ b < v) (hi : i ≤ n + 1) (hn : n < 2 ^ 31 - 1) : i < n + 1 := by
  rcases Nat.lt_or_ge i (n + 1) with q | q
  · exact q
  · exfalso
    apply h
    rw [hv, hb]
    exact nI_lt (by omega) (by omega)
theorem lp_gt {v b : Int32} {i n : Nat} (hv : v = nI i) (hb : b = nI n) (h : b < v) (hi : i ≤ n + 1) (hn : n < 2 ^ 31 - 1) : i = n + 1 := by
  rw [hv, hb] at h
  have := (nI_ltI (by omega) (by omega)).mp h
  omega
def rmX8_withThieves : Room := { frames := 2, cells := 0, slots := 0, locals := 44 }
set_option maxHeartbeats 4000000 in
set_option maxRecDepth 100000 in
theorem lp_withThievesI (g : Gx) (x : Cx) (M : Mm) (σ : Ab) (δ : Dy) (K : CA σ δ M) (h b : Int64) (i : Nat) (OUT : ∀ b2 : Int64, b2 = dgA σ δ i b 6 → Vj x g yX8_withThieves cX8_withThieves 7 (Option.some FieldType.long) rmX8_withThieves (Qm x g rmX8_withThieves.cells rmX8_withThieves.slots (pL fun r M' => M' = M ∧ r = dgT σ δ h (zN σ))) 0 0 M 43 [(0, some (.ref (g.1 + 0))), (3, some (.long b2)), (5, some (.int (nI i)))] []) : ∀ (n : Nat) (j : Nat) (v : Int32) (b1 : Int64), j ≤ 6 → 6 - j < n → v = nI j → b1 = dgA σ δ i b j → Vj x g yX8_withThieves cX8_withThieves 7 (Option.some FieldType.long) rmX8_withThieves (Qm x g rmX8_withThieves.cells rmX8_withThieves.slots (pL fun r M' => M' = M ∧ r = dgT σ δ h (zN σ))) 0 0 M 17 [(0, some (.ref (g.1 + 0))), (3, some (.long b1)), (5, some (.int (nI i))), (6, some (.int v))] [] := by
  intro n
  induction n with
  | zero => intro j v b1 hjm hn hv hb1; omega
  | succ n ih =>
    intro j v b1 hjm hn hv hb1
    obtain ⟨hs, w, dw, V, D, D2, D3, D4, D5, D6⟩ := id K
    subst hv
    have hv : nI j = nI j := rfl
    refine r_iload dX8_withThieves_17 rfl ?_
    refine r_iconst (v := 5) dX8_withThieves_19 (by decide) ?_
    refine r_icmp_gt 43 dX8_withThieves_20 (by decide) (fun c20 => ?_) (fun c20 => ?_)
    · skip
      have e0 := lp_gt (n := 5) hv rfl c20 hjm (by decide)
      subst e0
      exact r_lv (lvSc rfl (lvSc rfl (lvSc rfl lvS0))) (OUT _ hb1)
    · skip
      have hj : j < 6 := lp_le (n := 5) hv rfl c20 hjm (by decide)
      refine r_lload_n dX8_withThieves_23 rfl ?_
      refine r_aload_n dX8_withThieves_24 rfl ?_
      refine r_iload dX8_withThieves_25 rfl ?_
      refine r_iload dX8_withThieves_27 rfl ?_
      refine r_cV2i cvX8_331 (kX8_about g M σ δ K (nI i) (nI j)) (hs.lt (by decide)) (hs.T 0 rfl) ⟨Nat.le_of_ble_eq_true rfl, Nat.le_of_ble_eq_true rfl⟩ (Nat.le_of_ble_eq_true rfl) ⟨Nat.le_of_ble_eq_true rfl, Nat.le_of_ble_eq_true rfl⟩ dX8_withThieves_29 (fun r29 M29 h29 => ?_)
      obtain ⟨e29, h29⟩ := h29
      replace e29 := e29.symm
      subst e29
      refine r_i2l dX8_withThieves_32 ?_
      refine r_cS2l csX8_266 (kX8_with g M b1 r29.toInt64) hs.pos ⟨Nat.le_of_ble_eq_true rfl, Nat.le_of_ble_eq_true rfl⟩ (Nat.le_of_ble_eq_true rfl) ⟨Nat.le_of_ble_eq_true rfl, Nat.le_of_ble_eq_true rfl⟩ dX8_withThieves_33 (fun r33 M33 h33 => ?_)
      obtain ⟨e33, h33⟩ := h33
      replace e33 := e33.symm
      subst e33
      refine r_lstore_n dX8_withThieves_36 (by decide) rfl ?_
      refine r_iinc dX8_withThieves_37 rfl rfl rfl ?_
      refine r_goto 17 dX8_withThieves_40 (by decide) ?_
      exact r_lv (lvSc rfl (lvSc rfl (lvSc rfl (lvSc rfl lvS0)))) (ih (j + 1) _ _ (by omega) (by omega) (nI_inc rfl) (by rw [h33, h29, dgA, ← hb1]; rfl))
set_option maxHeartbeats 4000000 in
set_option maxRecDepth 100000 in
theorem lp_withThievesO (g : Gx) (x : Cx) (M : Mm) (σ : Ab) (δ : Dy) (K : CA σ δ M) (h : Int64) : ∀ (n : Nat) (i : Nat) (v : Int32) (b : Int64), i ≤ zN σ → zN σ - i < n → v = nI i → b = dgT σ δ h i → Vj x g yX8_withThieves cX8_withThieves 7 (Option.some FieldType.long) rmX8_withThieves (Qm x g rmX8_withThieves.cells rmX8_withThieves.slots (pL fun r M' => M' = M ∧ r = dgT σ δ h (zN σ))) 0 0 M 5 [(0, some (.ref (g.1 + 0))), (3, some (.long b)), (5, some (.int v))] [] := by
  intro n
  induction n with
  | zero => intro i v b hiN hn hv hb; omega
  | succ n ih =>
    intro i v b hiN hn hv hb
    obtain ⟨hs, w, dw, V, D, D2, D3, D4, D5, D6⟩ := id K
    subst hv
    have hv : nI i = nI i := rfl
    refine r_iload dX8_withThieves_5 rfl ?_
    refine r_aload_n dX8_withThieves_7 rfl ?_
    refine r_getI flX8_62_8 rfl (hs.lt (by decide)) (hs.T 0 rfl) dX8_withThieves_8 ?_
    refine r_icmp_ge 49 dX8_withThieves_11 (by decide) (fun c11 => ?_) (fun c11 => ?_)
    · skip
      have e0 := lp_ge (n := zN σ) hv V.1 c11 hiN (by have := w.1; omega)
      subst e0
      refine r_lload_n dX8_withThieves_49 rfl ?_
      exact r_lret dX8_withThieves_50 ⟨_, rfl, rfl, hb⟩
    · skip
      have hi : i < zN σ := lp_lt (n := zN σ) hv V.1 c11 hiN (by have := w.1; omega)
      refine r_iconst (v := 0) dX8_withThieves_14 (by decide) ?_
      refine r_istore dX8_withThieves_15 (by decide) rfl ?_
      exact r_lv (lvSc rfl (lvSc rfl (lvSc rfl (lvSc rfl lvS0)))) (lp_withThievesI g x M σ δ K h b i (fun b2 hb2 => by
        refine r_iinc dX8_withThieves_43 rfl rfl rfl ?_
        refine r_goto 5 dX8_withThieves_46 (by decide) ?_
        exact r_lv (lvSc rfl (lvSc rfl (lvSc rfl lvS0))) (ih (i + 1) _ _ (by omega) (by omega) (nI_inc rfl) (by rw [dgT, ← hb]; exact hb2))) 7 0 0 b (by omega) (by omega) rfl rfl)
set_option maxHeartbeats 4000000 in
set_option maxRecDepth 100000 in
theorem kX8_withThieves (g : Gx) (M : Mm) (σ : Ab) (δ : Dy) (K : CA σ δ M) (h : Int64) : Ct g yX8_withThieves cX8_withThieves 7 (Option.some FieldType.long) rmX8_withThieves [.ref (g.1 + 0), .long h] M (pL fun r M' => M' = M ∧ r = dgT σ δ h (zN σ)) := by
  obtain ⟨hs, w, dw, V, D, D2, D3, D4, D5, D6⟩ := id K
  refine Ct.of rfl (Nat.le_of_ble_eq_true rfl) (fun x => ?_)
  refine r_lload_n dX8_withThieves_0 rfl ?_
  refine r_lstore_n dX8_withThieves_1 (by decide) rfl ?_
  refine r_iconst (v := 0) dX8_withThieves_2 (by decide) ?_
  refine r_istore dX8_withThieves_3 (by decide) rfl ?_
  exact r_lv (lvSc rfl (lvSc rfl (lvSc rfl lvS0))) (lp_withThievesO g x M σ δ K h (zN σ + 1) 0 0 h (by omega) (by omega) rfl rfl)
def rmX8_withSpoons : Room := { frames := 2, cells := 0, slots := 0, locals := 43 }
set_option maxHeartbeats 4000000 in
set_option maxRecDepth 100000 in
theorem lp_withSpoonsI (g : Gx) (x : Cx) (M : Mm) (σ : Ab) (δ : Dy) (K : CA σ δ M) (h b : Int64) (i : Nat) (OUT : ∀ b2 : Int64, b2 = dgZ σ δ i b 4 → Vj x g yX8_withSpoons cX8_withSpoons 7 (Option.some FieldType.long) rmX8_withSpoons (Qm x g rmX8_withSpoons.cells rmX8_withSpoons.slots (pL fun r M' => M' = M ∧ r = dgS σ δ h (zS σ))) 0 0 M 43 [(0, some (.ref (g.1 + 0))), (3, some (.long b2)), (5, some (.int (nI i)))] []) : ∀ (n : Nat) (j : Nat) (v : Int32) (b1 : Int64), j ≤ 4 → 4 - j < n → v = nI j → b1 = dgZ σ δ i b j → Vj x g yX8_withSpoons cX8_withSpoons 7 (Option.some FieldType.long) rmX8_withSpoons (Qm x g rmX8_withSpoons.cells rmX8_withSpoons.slots (pL fun r M' => M' = M ∧ r = dgS σ δ h (zS σ))) 0 0 M 17 [(0, some (.ref (g.1 + 0))), (3, some (.long b1)), (5, some (.int (nI i))), (6, some (.int v))] [] := by
  intro n
  induction n with
  | zero => intro j v b1 hjm hn hv hb1; omega
  | succ n ih =>
    intro j v b1 hjm hn hv hb1
    obtain ⟨hs, w, dw, V, D, D2, D3, D4, D5, D6⟩ := id K
    subst hv
    have hv : nI j = nI j := rfl
    refine r_iload dX8_withSpoons_17 rfl ?_
    refine r_iconst (v := 3) dX8_withSpoons_19 (by decide) ?_
    refine r_icmp_gt 43 dX8_withSpoons_20 (by decide) (fun c20 => ?_) (fun c20 => ?_)
    · skip
      have e0 := lp_gt (n := 3) hv rfl c20 hjm (by decide)
      subst e0
      exact r_lv (lvSc rfl (lvSc rfl (lvSc rfl lvS0))) (OUT _ hb1)
    · skip
      have hj : j < 4 := lp_le (n := 3) hv rfl c20 hjm (by decide)
      refine r_lload_n dX8_withSpoons_23 rfl ?_
      refine r_aload_n dX8_withSpoons_24 rfl ?_
      refine r_iload dX8_withSpoons_25 rfl ?_
      refine r_iload dX8_withSpoons_27 rfl ?_
      refine r_cV2i cvX8_334 (kX8_silver g M σ δ K (nI i) (nI j)) (hs.lt (by decide)) (hs.T 0 rfl) ⟨Nat.le_of_ble_eq_true rfl, Nat.le_of_ble_eq_true rfl⟩ (Nat.le_of_ble_eq_true rfl) ⟨Nat.le_of_ble_eq_true rfl, Nat.le_of_ble_eq_true rfl⟩ dX8_withSpoons_29 (fun r29 M29 h29 => ?_)
      obtain ⟨e29, h29⟩ := h29
      replace e29 := e29.symm
      subst e29
      refine r_i2l dX8_withSpoons_32 ?_
      refine r_cS2l csX8_266 (kX8_with g M b1 r29.toInt64) hs.pos ⟨Nat.le_of_ble_eq_true rfl, Nat.le_of_ble_eq_true rfl⟩ (Nat.le_of_ble_eq_true rfl) ⟨Nat.le_of_ble_eq_true rfl, Nat.le_of_ble_eq_true rfl⟩ dX8_withSpoons_33 (fun r33 M33 h33 => ?_)
      obtain ⟨e33, h33⟩ := h33
      replace e33 := e33.symm
      subst e33
      refine r_lstore_n dX8_withSpoons_36 (by decide) rfl ?_
      refine r_iinc dX8_withSpoons_37 rfl rfl rfl ?_
      refine r_goto 17 dX8_withSpoons_40 (by decide) ?_
      exact r_lv (lvSc rfl (lvSc rfl (lvSc rfl (lvSc rfl lvS0)))) (ih (j + 1) _ _ (by omega) (by omega) (nI_inc rfl) (by rw [h33, h29, dgZ, ← hb1]; rfl))
set_option maxHeartbeats 4000000 in
set_option maxRecDepth 100000 in
theorem lp_withSpoonsO (g : Gx) (x : Cx) (M : Mm) (σ : Ab) (δ : Dy) (K : CA σ δ M) (h : Int64) : ∀ (n : Nat) (i : Nat) (v : Int32) (b : Int64), i ≤ zS σ → zS σ - i < n → v = nI i → b = dgS σ δ h i → Vj x g yX8_withSpoons cX8_withSpoons 7 (Option.some FieldType.long) rmX8_withSpoons (Qm x g rmX8_withSpoons.cells rmX8_withSpoons.slots (pL fun r M' => M' = M ∧ r = dgS σ δ h (zS σ))) 0 0 M 5 [(0, some (.ref (g.1 + 0))), (3, some (.long b)), (5, some (.int v))] [] := by
  intro n
  induction n with
  | zero => intro i v b hiN hn hv hb; omega
  | succ n ih =>
    intro i v b hiN hn hv hb
    obtain ⟨hs, w, dw, V, D, D2, D3, D4, D5, D6⟩ := id K
    subst hv
    have hv : nI i = nI i := rfl
    refine r_iload dX8_withSpoons_5 rfl ?_
    refine r_aload_n dX8_withSpoons_7 rfl ?_
    refine r_getI flX8_66_8 rfl (hs.lt (by decide)) (hs.T 0 rfl) dX8_withSpoons_8 ?_
    refine r_icmp_ge 49 dX8_withSpoons_11 (by decide) (fun c11 => ?_) (fun c11 => ?_)
    · skip
      have e0 := lp_ge (n := zS σ) hv V.2.1 c11 hiN (by have := w.2.1; omega)
      subst e0
      refine r_lload_n dX8_withSpoons_49 rfl ?_
      exact r_lret dX8_withSpoons_50 ⟨_, rfl, rfl, hb⟩
    · skip
      have hi : i < zS σ := lp_lt (n := zS σ) hv V.2.1 c11 hiN (by have := w.2.1; omega)
      refine r_iconst (v := 0) dX8_withSpoons_14 (by decide) ?_
      refine r_istore dX8_withSpoons_15 (by decide) rfl ?_
      exact r_lv (lvSc rfl (lvSc rfl (lvSc rfl (lvSc rfl lvS0)))) (lp_withSpoonsI g x M σ δ K h b i (fun b2 hb2 => by
        refine r_iinc dX8_withSpoons_43 rfl rfl rfl ?_
        refine r_goto 5 dX8_withSpoons_46 (by decide) ?_
        exact r_lv (lvSc rfl (lvSc rfl (lvSc rfl lvS0))) (ih (i + 1) _ _ (by omega) (by omega) (nI_inc rfl) (by rw [dgS, ← hb]; exact hb2))) 5 0 0 b (by omega) (by omega) rfl rfl)
set_option maxHeartbeats 4000000 in
set_option maxRecDepth 100000 in
theorem kX8_withSpoons (g : Gx) (M : Mm) (σ : Ab) (δ : Dy) (K : CA σ δ M) (h : Int64) : Ct g yX8_withSpoons cX8_withSpoons 7 (Option.some FieldType.long) rmX8_withSpoons [.ref (g.1 + 0), .long h] M (pL fun r M' => M' = M ∧ r = dgS σ δ h (zS σ)) := by
  obtain ⟨hs, w, dw, V, D, D2, D3, D4, D5, D6⟩ := id K
  refine Ct.of rfl (Nat.le_of_ble_eq_true rfl) (fun x => ?_)
  refine r_lload_n dX8_withSpoons_0 rfl ?_
  refine r_lstore_n dX8_withSpoons_1 (by decide) rfl ?_
  refine r_iconst (v := 0) dX8_withSpoons_2 (by decide) ?_
  refine r_istore dX8_withSpoons_3 (by decide) rfl ?_
  exact r_lv (lvSc rfl (lvSc rfl (lvSc rfl lvS0))) (lp_withSpoonsO g x M σ δ K h (zS σ + 1) 0 0 h (by omega) (by omega) rfl rfl)
def rmX8_withHouses : Room := { frames := 1, cells := 0, slots := 0, locals := 24 }
set_option maxHeartbeats 4000000 in
set_option maxRecDepth 100000 in
theorem lp_withH (g : Gx) (x : Cx) (M : Mm) (σ : Ab) (δ : Dy) (K : CA σ δ M) (h : Int64) : ∀ (n : Nat) (i : Nat) (v : Int32) (b : Int64), i ≤ 8 → 8 - i < n → v = nI i → b = dgH σ δ h i → Vj x g yX8_withHouses cX8_withHouses 6 (Option.some FieldType.long) rmX8_withHouses (Qm x g rmX8_withHouses.cells rmX8_withHouses.slots (pL fun r M' => M' = M ∧ r = dgH σ δ h 8)) 0 0 M 5 [(0, some (.ref (g.1 + 0))), (3, some (.long b)), (5, some (.int v))] [] := by
  intro n
  induction n with
  | zero => intro i v b hi8 hn hv hb; omega
  | succ n ih =>
    intro i v b hi8 hn hv hb
    obtain ⟨hs, w, dw, V, D, D2, D3, D4, D5, D6⟩ := id K
    subst hv
    have hv : nI i = nI i := rfl
    refine r_iload dX8_withHouses_5 rfl ?_
    refine r_bipush (v := 8) dX8_withHouses_7 (by decide) ?_
    refine r_icmp_ge 69 dX8_withHouses_9 (by decide) (fun c9 => ?_) (fun c9 => ?_)
    · skip
      have e0 := lp_ge (n := 8) hv rfl c9 hi8 (by decide)
      subst e0
      refine r_lload_n dX8_withHouses_69 rfl ?_
      exact r_lret dX8_withHouses_70 ⟨_, rfl, rfl, hb⟩
    · skip
      have hi : i < 8 := lp_lt (n := 8) hv rfl c9 hi8 (by decide)
      refine r_lload_n dX8_withHouses_12 rfl ?_
      refine r_aload_n dX8_withHouses_13 rfl ?_
      refine r_getR flX8_39_8 rfl (hs.lt (by decide)) (hs.T 0 rfl) (hs.R 0 5 rfl) dX8_withHouses_14 ?_
      refine r_getR flX8_160_1 rfl (hs.lt (by decide)) (hs.T 11 rfl) (hs.R 11 2 rfl) dX8_withHouses_17 ?_
      refine r_iload dX8_withHouses_20 rfl ?_
      refine r_ial (hs.T 14 rfl) (hs.lt (by decide)) (ix_nI hi (by decide)) dX8_withHouses_22 ?_
      refine r_i2l dX8_withHouses_23 ?_
      refine r_cS2l csX8_266 (kX8_with g M b (mI M 14 i).toInt64) hs.pos ⟨Nat.le_of_ble_eq_true rfl, Nat.le_of_ble_eq_true rfl⟩ (Nat.le_of_ble_eq_true rfl) ⟨Nat.le_of_ble_eq_true rfl, Nat.le_of_ble_eq_true rfl⟩ dX8_withHouses_24 (fun r24 M24 h24 => ?_)
      obtain ⟨e24, h24⟩ := h24
      replace e24 := e24.symm
      subst e24
      refine r_lstore_n dX8_withHouses_27 (by decide) rfl ?_
      refine r_lload_n dX8_withHouses_28 rfl ?_
      refine r_aload_n dX8_withHouses_29 rfl ?_
      refine r_getR flX8_39_8 rfl (hs.lt (by decide)) (hs.T 0 rfl) (hs.R 0 5 rfl) dX8_withHouses_30 ?_
      refine r_getR flX8_163_1 rfl (hs.lt (by decide)) (hs.T 11 rfl) (hs.R 11 3 rfl) dX8_withHouses_33 ?_
      refine r_iload dX8_withHouses_36 rfl ?_
      refine r_zal (hs.T 15 rfl) (hs.lt (by decide)) (ix_nI hi (by decide)) dX8_withHouses_38 ?_
      refine r_cS1i csX8_149 (kX8_asNumber g M (mI M 15 i)) hs.pos ⟨Nat.le_of_ble_eq_true rfl, Nat.le_of_ble_eq_true rfl⟩ (Nat.le_of_ble_eq_true rfl) ⟨Nat.le_of_ble_eq_true rfl, Nat.le_of_ble_eq_true rfl⟩ dX8_withHouses_39 (fun r39 M39 h39 => ?_)
      obtain ⟨e39, h39⟩ := h39
      replace e39 := e39.symm
      subst e39
      have e15 : r39 = yd δ i := by rw [h39]; have := D.2.2.1 i hi; rw [show mI M 15 i = yd δ i from this.1]; rcases this.2 with e | e <;> rw [e] <;> rfl
      refine r_i2l dX8_withHouses_42 ?_
      refine r_cS2l csX8_266 (kX8_with g M r24 r39.toInt64) hs.pos ⟨Nat.le_of_ble_eq_true rfl, Nat.le_of_ble_eq_true rfl⟩ (Nat.le_of_ble_eq_true rfl) ⟨Nat.le_of_ble_eq_true rfl, Nat.le_of_ble_eq_true rfl⟩ dX8_withHouses_43 (fun r43 M43 h43 => ?_)
      obtain ⟨e43, h43⟩ := h43
      replace e43 := e43.symm
      subst e43
      refine r_lstore_n dX8_withHouses_46 (by decide) rfl ?_
      refine r_lload_n dX8_withHouses_47 rfl ?_
      refine r_aload_n dX8_withHouses_48 rfl ?_
      refine r_aload_n dX8_withHouses_49 rfl ?_
      refine r_getR flX8_39_8 rfl (hs.lt (by decide)) (hs.T 0 rfl) (hs.R 0 5 rfl) dX8_withHouses_50 ?_
      refine r_iload dX8_withHouses_53 rfl ?_
      refine r_cV2i cvX8_175 (kX8_worthIn g M 11 (Or.inl rfl) hs σ w V (yp δ) D.1 (nI i)) (hs.lt (by decide)) (hs.T 0 rfl) ⟨Nat.le_of_ble_eq_true rfl, Nat.le_of_ble_eq_true rfl⟩ (Nat.le_of_ble_eq_true rfl) ⟨Nat.le_of_ble_eq_true rfl, Nat.le_of_ble_eq_true rfl⟩ dX8_withHouses_55 (fun r55 M55 h55 => ?_)
      obtain ⟨e55, h55⟩ := h55
      replace e55 := e55.symm
      subst e55
      refine r_i2l dX8_withHouses_58 ?_
      refine r_cS2l csX8_266 (kX8_with g M r43 r55.toInt64) hs.pos ⟨Nat.le_of_ble_eq_true rfl, Nat.le_of_ble_eq_true rfl⟩ (Nat.le_of_ble_eq_true rfl) ⟨Nat.le_of_ble_eq_true rfl, Nat.le_of_ble_eq_true rfl⟩ dX8_withHouses_59 (fun r59 M59 h59 => ?_)
      obtain ⟨e59, h59⟩ := h59
      replace e59 := e59.symm
      subst e59
      refine r_lstore_n dX8_withHouses_62 (by decide) rfl ?_
      refine r_iinc dX8_withHouses_63 rfl rfl rfl ?_
      refine r_goto 5 dX8_withHouses_66 (by decide) ?_
      exact r_lv (lvSc rfl (lvSc rfl (lvSc rfl lvS0))) (ih (i + 1) _ _ (by omega) (by omega) (nI_inc rfl) (by rw [h59, h55, h43, e15, h24, show mI M 14 i = yl δ i from D.2.1 i hi, hb]; rfl))
set_option maxHeartbeats 4000000 in
set_option maxRecDepth 100000 in
theorem kX8_withHouses (g : Gx) (M : Mm) (σ : Ab) (δ : Dy) (K : CA σ δ M) (h : Int64) : Ct g yX8_withHouses cX8_withHouses 6 (Option.some FieldType.long) rmX8_withHouses [.ref (g.1 + 0), .long h] M (pL fun r M' => M' = M ∧ r = dgH σ δ h 8) := by
  obtain ⟨hs, w, dw, V, D, D2, D3, D4, D5, D6⟩ := id K
  refine Ct.of rfl (Nat.le_of_ble_eq_true rfl) (fun x => ?_)
  refine r_lload_n dX8_withHouses_0 rfl ?_
  refine r_lstore_n dX8_withHouses_1 (by decide) rfl ?_
  refine r_iconst (v := 0) dX8_withHouses_2 (by decide) ?_
  refine r_istore dX8_withHouses_3 (by decide) rfl ?_
  exact r_lv (lvSc rfl (lvSc rfl (lvSc rfl lvS0))) (lp_withH g x M σ δ K h 9 0 0 h (by omega) (by omega) rfl rfl)
def rmX8_withOutlook : Room := { frames := 6, cells := 0, slots := 0, locals := 151 }
set_option maxHeartbeats 4000000 in
set_option maxRecDepth 100000 in
theorem lp_outl (g : Gx) (x : Cx) (M : Mm) (σ : Ab) (δ : Dy) (K : CA σ δ M) (h : Int64) : ∀ (n : Nat) (i : Nat) (v : Int32) (b : Int64) (M1 : Mm), i ≤ 8 → 8 - i < n → v = nI i → Fr (cF 25) [] M M1 → b = dgO σ δ h i → Vj x g yX8_withOutlook cX8_withOutlook 7 (Option.some FieldType.long) rmX8_withOutlook (Qm x g rmX8_withOutlook.cells rmX8_withOutlook.slots (pL fun r M' => Fr (cF 25) [] M M' ∧ r = dgO σ δ h 8)) 0 0 M1 23 [(0, some (.ref (g.1 + 0))), (3, some (.long b)), (5, some (.int v))] [] := by
  intro n
  induction n with
  | zero => intro i v b M1 hi8 hn hv hF hb; omega
  | succ n ih =>
    intro i v b M1 hi8 hn hv hF hb
    obtain ⟨hs, w, dw, V, D, D2, D3, D4, D5, D6⟩ := id K
    have hs1 := hs.fr hF
    have K1 := K.fr hF (by intro a ha; rw [cF_in] at ha; unfold okK; omega)
    subst hv
    have hv : nI i = nI i := rfl
    refine r_iload dX8_withOutlook_23 rfl ?_
    refine r_bipush (v := 8) dX8_withOutlook_25 (by decide) ?_
    refine r_icmp_ge 68 dX8_withOutlook_27 (by decide) (fun c27 => ?_) (fun c27 => ?_)
    · skip
      have e0 := lp_ge (n := 8) hv rfl c27 hi8 (by decide)
      subst e0
      refine r_lload_n dX8_withOutlook_68 rfl ?_
      exact r_lret dX8_withOutlook_69 ⟨_, rfl, hF, hb⟩
    · skip
      have hi : i < 8 := lp_lt (n := 8) hv rfl c27 hi8 (by decide)
      have hb2 := (bsF_inv w δ (nI i) (m := 3) (by decide) (by decide) (2 ^ zN σ) Nat.one_le_two_pow).2
      refine r_aload_n dX8_withOutlook_30 rfl ?_
      refine r_iload dX8_withOutlook_31 rfl ?_
      refine r_iconst (v := 3) dX8_withOutlook_33 (by decide) ?_
      refine r_cV2i cvX8_209 (kX8_bestSet g M1 σ δ K1 (nI i) 3 3 rfl (by decide)) (hs1.lt (by decide)) (hs1.T 0 rfl) ⟨Nat.le_of_ble_eq_true rfl, Nat.le_of_ble_eq_true rfl⟩ (Nat.le_of_ble_eq_true rfl) ⟨Nat.le_of_ble_eq_true rfl, Nat.le_of_ble_eq_true rfl⟩ dX8_withOutlook_34 (fun r34 M34 h34 => ?_)
      obtain ⟨hF2, h34⟩ := h34
      have hF3 := hF.tr hF2
      have K2 := K.fr hF3 (by intro a ha; rw [cF_in] at ha; unfold okK; omega)
      refine r_istore dX8_withOutlook_37 (by decide) rfl ?_
      refine r_lload_n dX8_withOutlook_39 rfl ?_
      refine r_aload_n dX8_withOutlook_40 rfl ?_
      refine r_iload dX8_withOutlook_41 rfl ?_
      refine r_iconst (v := 3) dX8_withOutlook_43 (by decide) ?_
      refine r_iload dX8_withOutlook_44 rfl ?_
      refine r_cV3i cvX8_213 (kX8_leftBy g M34 σ δ K2 (nI i) 3 r34 3 rfl (by decide)) ((hs.fr hF3).lt (by decide)) ((hs.fr hF3).T 0 rfl) ⟨Nat.le_of_ble_eq_true rfl, Nat.le_of_ble_eq_true rfl⟩ (Nat.le_of_ble_eq_true rfl) ⟨Nat.le_of_ble_eq_true rfl, Nat.le_of_ble_eq_true rfl⟩ dX8_withOutlook_46 (fun r46 M46 h46 => ?_)
      obtain ⟨hF4, h46⟩ := h46
      have hF5 := hF3.tr hF4
      refine r_i2l dX8_withOutlook_49 ?_
      refine r_cS2l csX8_266 (kX8_with g M46 b r46.toInt64) (hs.fr hF5).pos ⟨Nat.le_of_ble_eq_true rfl, Nat.le_of_ble_eq_true rfl⟩ (Nat.le_of_ble_eq_true rfl) ⟨Nat.le_of_ble_eq_true rfl, Nat.le_of_ble_eq_true rfl⟩ dX8_withOutlook_50 (fun r50 M50 h50 => ?_)
      obtain ⟨e50, h50⟩ := h50
      replace e50 := e50.symm
      subst e50
      refine r_lstore_n dX8_withOutlook_53 (by decide) rfl ?_
      refine r_lload_n dX8_withOutlook_54 rfl ?_
      refine r_iload dX8_withOutlook_55 rfl ?_
      refine r_i2l dX8_withOutlook_57 ?_
      refine r_cS2l csX8_266 (kX8_with g M46 r50 r34.toInt64) (hs.fr hF5).pos ⟨Nat.le_of_ble_eq_true rfl, Nat.le_of_ble_eq_true rfl⟩ (Nat.le_of_ble_eq_true rfl) ⟨Nat.le_of_ble_eq_true rfl, Nat.le_of_ble_eq_true rfl⟩ dX8_withOutlook_58 (fun r58 M58 h58 => ?_)
      obtain ⟨e58, h58⟩ := h58
      replace e58 := e58.symm
      subst e58
      refine r_lstore_n dX8_withOutlook_61 (by decide) rfl ?_
      refine r_iinc dX8_withOutlook_62 rfl rfl rfl ?_
      refine r_goto 23 dX8_withOutlook_65 (by decide) ?_
      exact r_lv (lvSc rfl (lvSc rfl (lvSc rfl lvS0))) (ih (i + 1) _ _ _ (by omega) (by omega) (nI_inc rfl) hF5 (by rw [h58, h50, h46, h34, hb, dgO, hb2]; rfl))
set_option maxHeartbeats 4000000 in
set_option maxRecDepth 100000 in
theorem kX8_withOutlook (g : Gx) (M : Mm) (σ : Ab) (δ : Dy) (K : CA σ δ M) (h : Int64) : Ct g yX8_withOutlook cX8_withOutlook 7 (Option.some FieldType.long) rmX8_withOutlook [.ref (g.1 + 0), .long h] M (pL fun r M' => Fr (cF 25) [] M M' ∧ r = dgO σ δ h 8) := by
  obtain ⟨hs, w, dw, V, D, D2, D3, D4, D5, D6⟩ := id K
  refine Ct.of rfl (Nat.le_of_ble_eq_true rfl) (fun x => ?_)
  refine r_lload_n dX8_withOutlook_0 rfl ?_
  refine r_aload_n dX8_withOutlook_1 rfl ?_
  refine r_cV0i cvX8_337 (kX8_still g M σ δ K) (hs.lt (by decide)) (hs.T 0 rfl) ⟨Nat.le_of_ble_eq_true rfl, Nat.le_of_ble_eq_true rfl⟩ (Nat.le_of_ble_eq_true rfl) ⟨Nat.le_of_ble_eq_true rfl, Nat.le_of_ble_eq_true rfl⟩ dX8_withOutlook_2 (fun r2 M2 h2 => ?_)
  obtain ⟨hF, h2⟩ := h2
  have K1 := K.fr hF (by intro a ha; rw [cF_in] at ha; unfold okK; omega)
  refine r_i2l dX8_withOutlook_5 ?_
  refine r_cS2l csX8_266 (kX8_with g M2 h r2.toInt64) (hs.fr hF).pos ⟨Nat.le_of_ble_eq_true rfl, Nat.le_of_ble_eq_true rfl⟩ (Nat.le_of_ble_eq_true rfl) ⟨Nat.le_of_ble_eq_true rfl, Nat.le_of_ble_eq_true rfl⟩ dX8_withOutlook_6 (fun r6 M6 h6 => ?_)
  obtain ⟨e6, h6⟩ := h6
  replace e6 := e6.symm
  subst e6
  refine r_lstore_n dX8_withOutlook_9 (by decide) rfl ?_
  refine r_lload_n dX8_withOutlook_10 rfl ?_
  refine r_aload_n dX8_withOutlook_11 rfl ?_
  refine r_cV0i cvX8_340 (kX8_who g M2 σ δ K1) ((hs.fr hF).lt (by decide)) ((hs.fr hF).T 0 rfl) ⟨Nat.le_of_ble_eq_true rfl, Nat.le_of_ble_eq_true rfl⟩ (Nat.le_of_ble_eq_true rfl) ⟨Nat.le_of_ble_eq_true rfl, Nat.le_of_ble_eq_true rfl⟩ dX8_withOutlook_12 (fun r12 M12 h12 => ?_)
  obtain ⟨hF2, h12⟩ := h12
  have hF3 := hF.tr hF2
  refine r_i2l dX8_withOutlook_15 ?_
  refine r_cS2l csX8_266 (kX8_with g M12 r6 r12.toInt64) (hs.fr hF3).pos ⟨Nat.le_of_ble_eq_true rfl, Nat.le_of_ble_eq_true rfl⟩ (Nat.le_of_ble_eq_true rfl) ⟨Nat.le_of_ble_eq_true rfl, Nat.le_of_ble_eq_true rfl⟩ dX8_withOutlook_16 (fun r16 M16 h16 => ?_)
  obtain ⟨e16, h16⟩ := h16
  replace e16 := e16.symm
  subst e16
  refine r_lstore_n dX8_withOutlook_19 (by decide) rfl ?_
  refine r_iconst (v := 0) dX8_withOutlook_20 (by decide) ?_
  refine r_istore dX8_withOutlook_21 (by decide) rfl ?_
  exact r_lv (lvSc rfl (lvSc rfl (lvSc rfl lvS0))) (lp_outl g x M σ δ K h 9 0 0 _ _ (by omega) (by omega) rfl hF3 (by rw [h16, h12, h6, h2]; rfl))
def rmX8_digest : Room := { frames := 7, cells := 0, slots := 0, locals := 177 }
set_option maxHeartbeats 4000000 in
set_option maxRecDepth 100000 in
theorem lp_dig2 (g : Gx) (x : Cx) (M : Mm) (σ : Ab) (δ : Dy) (K : CA σ δ M) (pg : Rw) (pn : Nat) (hpn : mI M 1 1 = nI pn) (h40 : pn ≤ 40) (hpg : ∀ k, k < pn → mI M 2 k = pg k) (F : Int32) (hFw : fewP σ δ F) (M1 : Mm) (hF : Fr (33 :: 34 :: 35 :: cF 25) [] M M1) : ∀ (n : Nat) (i : Nat) (v : Int32) (b : Int64), i ≤ 7 → 7 - i < n → v = nI i → b = dgC σ δ (nI pn) (mI M 0 14) (dgP pg (dgG σ δ F) pn) i → Vj x g yX8_digest cX8_digest 4 (Option.some FieldType.long) rmX8_digest (Qm x g rmX8_digest.cells rmX8_digest.slots (pL fun r M' => Fr (33 :: 34 :: 35 :: cF 25) [] M M' ∧ ∃ F, fewP σ δ F ∧ r = digR σ δ F pg pn (mI M 0 14))) 0 0 M1 79 [(0, some (.ref (g.1 + 0))), (1, some (.long b)), (3, some (.int v))] [] := by
  intro n
  induction n with
  | zero => intro i v b hi8 hn hv hb; omega
  | succ n ih =>
    intro i v b hi8 hn hv hb
    obtain ⟨hs, w, dw, V, D, D2, D3, D4, D5, D6⟩ := id K
    have hs1 := hs.fr hF
    have K1 := K.fr hF (by intro a ha; simp [cF_in] at ha; unfold okK; omega)
    subst hv
    have hv : nI i = nI i := rfl
    refine r_iload_n dX8_digest_79 rfl ?_
    refine r_bipush (v := 6) dX8_digest_80 (by decide) ?_
    refine r_icmp_gt 102 dX8_digest_82 (by decide) (fun c82 => ?_) (fun c82 => ?_)
    · skip
      have e0 := lp_gt (n := 6) hv rfl c82 hi8 (by decide)
      subst e0
      refine r_lload_n dX8_digest_102 rfl ?_
      exact r_lret dX8_digest_103 ⟨_, rfl, hF, F, hFw, hb⟩
    · skip
      have hi : i < 7 := lp_le (n := 6) hv rfl c82 hi8 (by decide)
      refine r_lload_n dX8_digest_85 rfl ?_
      refine r_aload_n dX8_digest_86 rfl ?_
      refine r_iload_n dX8_digest_87 rfl ?_
      refine r_cV1i cvX8_272 (kX8_count g M1 σ δ K1 (nI i)) (hs1.lt (by decide)) (hs1.T 0 rfl) ⟨Nat.le_of_ble_eq_true rfl, Nat.le_of_ble_eq_true rfl⟩ (Nat.le_of_ble_eq_true rfl) ⟨Nat.le_of_ble_eq_true rfl, Nat.le_of_ble_eq_true rfl⟩ dX8_digest_88 (fun r88 M88 h88 => ?_)
      obtain ⟨e88, h88⟩ := h88
      replace e88 := e88.symm
      subst e88
      rw [(hF.2.1 1 (by simp [cF_in])), (hF.2.1 0 (by simp [cF_in])), hpn] at h88
      refine r_i2l dX8_digest_91 ?_
      refine r_cS2l csX8_266 (kX8_with g M1 b r88.toInt64) hs1.pos ⟨Nat.le_of_ble_eq_true rfl, Nat.le_of_ble_eq_true rfl⟩ (Nat.le_of_ble_eq_true rfl) ⟨Nat.le_of_ble_eq_true rfl, Nat.le_of_ble_eq_true rfl⟩ dX8_digest_92 (fun r92 M92 h92 => ?_)
      obtain ⟨e92, h92⟩ := h92
      replace e92 := e92.symm
      subst e92
      refine r_lstore_n dX8_digest_95 (by decide) rfl ?_
      refine r_iinc dX8_digest_96 rfl rfl rfl ?_
      refine r_goto 79 dX8_digest_99 (by decide) ?_
      exact r_lv (lvSc rfl (lvSc rfl (lvSc rfl lvS0))) (ih (i + 1) _ _ (by omega) (by omega) (nI_inc rfl) (by rw [h92, h88, hb]; rfl))
set_option maxHeartbeats 4000000 in
set_option maxRecDepth 100000 in
theorem lp_dig1 (g : Gx) (x : Cx) (M : Mm) (σ : Ab) (δ : Dy) (K : CA σ δ M) (pg : Rw) (pn : Nat) (hpn : mI M 1 1 = nI pn) (h40 : pn ≤ 40) (hpg : ∀ k, k < pn → mI M 2 k = pg k) (F : Int32) (hFw : fewP σ δ F) (M1 : Mm) (hF : Fr (33 :: 34 :: 35 :: cF 25) [] M M1) : ∀ (n : Nat) (i : Nat) (v : Int32) (b : Int64), i ≤ pn → pn - i < n → v = nI i → b = dgP pg (dgG σ δ F) i → Vj x g yX8_digest cX8_digest 4 (Option.some FieldType.long) rmX8_digest (Qm x g rmX8_digest.cells rmX8_digest.slots (pL fun r M' => Fr (33 :: 34 :: 35 :: cF 25) [] M M' ∧ ∃ F, fewP σ δ F ∧ r = digR σ δ F pg pn (mI M 0 14))) 0 0 M1 45 [(0, some (.ref (g.1 + 0))), (1, some (.long b)), (3, some (.int v))] [] := by
  intro n
  induction n with
  | zero => intro i v b hi8 hn hv hb; omega
  | succ n ih =>
    intro i v b hi8 hn hv hb
    obtain ⟨hs, w, dw, V, D, D2, D3, D4, D5, D6⟩ := id K
    have hs1 := hs.fr hF
    subst hv
    have hv : nI i = nI i := rfl
    have hp1 : mI M1 1 1 = nI pn := by rw [(hF.2.1 1 (by simp [cF_in]))]; exact hpn
    refine r_iload_n dX8_digest_45 rfl ?_
    refine r_aload_n dX8_digest_46 rfl ?_
    refine r_getR flX8_12_8 rfl (hs1.lt (by decide)) (hs1.T 0 rfl) (hs1.R 0 0 rfl) dX8_digest_47 ?_
    refine r_getI flX8_89_4 rfl (hs1.lt (by decide)) (hs1.T 1 rfl) dX8_digest_50 ?_
    refine r_icmp_ge 77 dX8_digest_53 (by decide) (fun c53 => ?_) (fun c53 => ?_)
    · skip
      have e0 := lp_ge (n := pn) hv hp1 c53 hi8 (by omega)
      subst e0
      refine r_iconst (v := 0) dX8_digest_77 (by decide) ?_
      refine r_istore_n dX8_digest_78 (by decide) rfl ?_
      exact r_lv (lvSc rfl (lvSc rfl (lvSc rfl lvS0))) (lp_dig2 g x M σ δ K pg i hpn h40 hpg F hFw M1 hF 8 0 0 _ (by omega) (by omega) rfl hb)
    · skip
      have hi : i < pn := lp_lt (n := pn) hv hp1 c53 hi8 (by omega)
      refine r_lload_n dX8_digest_56 rfl ?_
      refine r_aload_n dX8_digest_57 rfl ?_
      refine r_getR flX8_12_8 rfl (hs1.lt (by decide)) (hs1.T 0 rfl) (hs1.R 0 0 rfl) dX8_digest_58 ?_
      refine r_getR flX8_92_4 rfl (hs1.lt (by decide)) (hs1.T 1 rfl) (hs1.R 1 0 rfl) dX8_digest_61 ?_
      refine r_iload_n dX8_digest_64 rfl ?_
      refine r_ial (hs1.T 2 rfl) (hs1.lt (by decide)) (ix_nI (by omega) (by decide)) dX8_digest_65 ?_
      refine r_i2l dX8_digest_66 ?_
      refine r_cS2l csX8_266 (kX8_with g M1 b (mI M1 2 i).toInt64) hs1.pos ⟨Nat.le_of_ble_eq_true rfl, Nat.le_of_ble_eq_true rfl⟩ (Nat.le_of_ble_eq_true rfl) ⟨Nat.le_of_ble_eq_true rfl, Nat.le_of_ble_eq_true rfl⟩ dX8_digest_67 (fun r67 M67 h67 => ?_)
      obtain ⟨e67, h67⟩ := h67
      replace e67 := e67.symm
      subst e67
      refine r_lstore_n dX8_digest_70 (by decide) rfl ?_
      refine r_iinc dX8_digest_71 rfl rfl rfl ?_
      refine r_goto 45 dX8_digest_74 (by decide) ?_
      exact r_lv (lvSc rfl (lvSc rfl (lvSc rfl lvS0))) (ih (i + 1) _ _ (by omega) (by omega) (nI_inc rfl) (by rw [h67, (hF.2.1 2 (by simp [cF_in])), hpg i hi, hb]; rfl))
set_option maxHeartbeats 4000000 in
set_option maxRecDepth 100000 in
theorem kX8_digest (g : Gx) (M : Mm) (σ : Ab) (δ : Dy) (K : CA σ δ M) (pg : Rw) (pn : Nat) (hpn : mI M 1 1 = nI pn) (h40 : pn ≤ 40) (hpg : ∀ k, k < pn → mI M 2 k = pg k) : Ct g yX8_digest cX8_digest 4 (Option.some FieldType.long) rmX8_digest [.ref (g.1 + 0)] M (pL fun r M' => Fr (33 :: 34 :: 35 :: cF 25) [] M M' ∧ ∃ F, fewP σ δ F ∧ r = digR σ δ F pg pn (mI M 0 14)) := by
  obtain ⟨hs, w, dw, V, D, D2, D3, D4, D5, D6⟩ := id K
  refine Ct.of rfl (Nat.le_of_ble_eq_true rfl) (fun x => ?_)
  refine r_aload_n dX8_digest_0 rfl ?_
  refine r_ldc2_w (v := 673) dX8_digest_1 tw606 ?_
  refine r_cV1l cvX8_253 (kX8_withThieves g M σ δ K 673) (hs.lt (by decide)) (hs.T 0 rfl) ⟨Nat.le_of_ble_eq_true rfl, Nat.le_of_ble_eq_true rfl⟩ (Nat.le_of_ble_eq_true rfl) ⟨Nat.le_of_ble_eq_true rfl, Nat.le_of_ble_eq_true rfl⟩ dX8_digest_4 (fun r4 M4 h4 => ?_)
  obtain ⟨e4, h4⟩ := h4
  replace e4 := e4.symm
  subst e4
  refine r_lstore_n dX8_digest_7 (by decide) rfl ?_
  refine r_aload_n dX8_digest_8 rfl ?_
  refine r_lload_n dX8_digest_9 rfl ?_
  refine r_cV1l cvX8_257 (kX8_withHouses g M σ δ K r4) (hs.lt (by decide)) (hs.T 0 rfl) ⟨Nat.le_of_ble_eq_true rfl, Nat.le_of_ble_eq_true rfl⟩ (Nat.le_of_ble_eq_true rfl) ⟨Nat.le_of_ble_eq_true rfl, Nat.le_of_ble_eq_true rfl⟩ dX8_digest_10 (fun r10 M10 h10 => ?_)
  obtain ⟨e10, h10⟩ := h10
  replace e10 := e10.symm
  subst e10
  refine r_lstore_n dX8_digest_13 (by decide) rfl ?_
  refine r_aload_n dX8_digest_14 rfl ?_
  refine r_lload_n dX8_digest_15 rfl ?_
  refine r_cV1l cvX8_260 (kX8_withSpoons g M σ δ K r10) (hs.lt (by decide)) (hs.T 0 rfl) ⟨Nat.le_of_ble_eq_true rfl, Nat.le_of_ble_eq_true rfl⟩ (Nat.le_of_ble_eq_true rfl) ⟨Nat.le_of_ble_eq_true rfl, Nat.le_of_ble_eq_true rfl⟩ dX8_digest_16 (fun r16 M16 h16 => ?_)
  obtain ⟨e16, h16⟩ := h16
  replace e16 := e16.symm
  subst e16
  refine r_lstore_n dX8_digest_19 (by decide) rfl ?_
  refine r_lload_n dX8_digest_20 rfl ?_
  refine r_aload_n dX8_digest_21 rfl ?_
  refine r_cV0i cvX8_263 (kX8_fewest g M σ δ K) (hs.lt (by decide)) (hs.T 0 rfl) ⟨Nat.le_of_ble_eq_true rfl, Nat.le_of_ble_eq_true rfl⟩ (Nat.le_of_ble_eq_true rfl) ⟨Nat.le_of_ble_eq_true rfl, Nat.le_of_ble_eq_true rfl⟩ dX8_digest_22 (fun r22 M22 h22 => ?_)
  obtain ⟨hF0, hFw⟩ := h22
  have hF := hF0.mono (is' := 33 :: 34 :: 35 :: cF 25) (ls' := []) (by simp) (by simp)
  have K1 := K.fr hF (by intro a ha; simp [cF_in] at ha; unfold okK; omega)
  refine r_i2l dX8_digest_25 ?_
  refine r_cS2l csX8_266 (kX8_with g M22 r16 r22.toInt64) (hs.fr hF).pos ⟨Nat.le_of_ble_eq_true rfl, Nat.le_of_ble_eq_true rfl⟩ (Nat.le_of_ble_eq_true rfl) ⟨Nat.le_of_ble_eq_true rfl, Nat.le_of_ble_eq_true rfl⟩ dX8_digest_26 (fun r26 M26 h26 => ?_)
  obtain ⟨e26, h26⟩ := h26
  replace e26 := e26.symm
  subst e26
  have eE : r26 = dgE σ δ r22 := by rw [h26, h16, h10, h4]; rfl
  refine r_lstore_n dX8_digest_29 (by decide) rfl ?_
  refine r_aload_n dX8_digest_30 rfl ?_
  refine r_getI flX8_62_8 rfl ((hs.fr hF).lt (by decide)) ((hs.fr hF).T 0 rfl) dX8_digest_31 ?_
  refine r_if_le 43 dX8_digest_34 (by decide) (fun c34 => ?_) (fun c34 => ?_)
  · skip
    have hN0 : zN σ = 0 := by rw [K1.2.2.2.1.1] at c34; exact (nI_leI (b := 0) (by have := w.1; omega) (by decide)).mp c34 |> Nat.le_zero.mp
    refine r_iconst (v := 0) dX8_digest_43 (by decide) ?_
    refine r_istore_n dX8_digest_44 (by decide) rfl ?_
    exact r_lv (lvSc rfl (lvSc rfl (lvSc rfl lvS0))) (lp_dig1 g x M σ δ K pg pn hpn h40 hpg r22 hFw _ hF (pn + 1) 0 0 _ (by omega) (by omega) rfl (by rw [dgP, dgG, if_pos hN0]; exact eE))
  · skip
    have hN0 : ¬ zN σ = 0 := fun q => c34 (by rw [K1.2.2.2.1.1, q]; decide)
    refine r_aload_n dX8_digest_37 rfl ?_
    refine r_lload_n dX8_digest_38 rfl ?_
    refine r_cV1l cvX8_269 (kX8_withOutlook g M22 σ δ K1 r26) ((hs.fr hF).lt (by decide)) ((hs.fr hF).T 0 rfl) ⟨Nat.le_of_ble_eq_true rfl, Nat.le_of_ble_eq_true rfl⟩ (Nat.le_of_ble_eq_true rfl) ⟨Nat.le_of_ble_eq_true rfl, Nat.le_of_ble_eq_true rfl⟩ dX8_digest_39 (fun r39 M39 h39 => ?_)
    obtain ⟨hF2, h39⟩ := h39
    have hF3 := hF.tr (hF2.mono (is' := 33 :: 34 :: 35 :: cF 25) (ls' := []) (by intro a ha; exact List.mem_cons_of_mem _ (List.mem_cons_of_mem _ (List.mem_cons_of_mem _ ha))) (by simp))
    refine r_lstore_n dX8_digest_42 (by decide) rfl ?_
    refine r_iconst (v := 0) dX8_digest_43 (by decide) ?_
    refine r_istore_n dX8_digest_44 (by decide) rfl ?_
    exact r_lv (lvSc rfl (lvSc rfl (lvSc rfl lvS0))) (lp_dig1 g x M σ δ K pg pn hpn h40 hpg r22 hFw _ hF3 (pn + 1) 0 0 _ (by omega) (by omega) rfl (by rw [dgP, dgG, if_neg hN0]; rw [h39, eE]))
