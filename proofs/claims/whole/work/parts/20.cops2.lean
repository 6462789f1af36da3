def rmX8_about : Room := { frames := 1, cells := 0, slots := 0, locals := 21 }
set_option maxHeartbeats 4000000 in
set_option maxRecDepth 100000 in
theorem kX8_about (g : Gx) (M : Mm) (σ : Ab) (δ : Dy) (K : CA σ δ M) (t v : Int32) : Ct g yX8_about cX8_about 4 (Option.some FieldType.int) rmX8_about [.ref (g.1 + 0), .int t, .int v] M (pI fun r M' => M' = M ∧ r = aboutR σ δ t v) := by
  obtain ⟨hs, w, dw, V, D, D2, D3, D4, D5, D6⟩ := id K
  refine Ct.of rfl (Nat.le_of_ble_eq_true rfl) (fun x => ?_)
  refine r_aload_n dX8_about_0 rfl ?_
  refine r_iload_n dX8_about_1 rfl ?_
  refine r_cV1i cvX8_133 (kX8_isThief g M hs t) (hs.lt (by decide)) (hs.T 0 rfl) ⟨Nat.le_of_ble_eq_true rfl, Nat.le_of_ble_eq_true rfl⟩ (Nat.le_of_ble_eq_true rfl) ⟨Nat.le_of_ble_eq_true rfl, Nat.le_of_ble_eq_true rfl⟩ dX8_about_2 (fun r2 M2 h2 => ?_)
  obtain ⟨e2, h2⟩ := h2
  replace e2 := e2.symm
  subst e2
  rw [V.1] at h2
  refine r_if_ne 11 dX8_about_5 (by decide) (fun c5 => ?_) (fun c5 => ?_)
  · skip
    obtain ⟨j, hj, ej⟩ := ix_ex (by have := w.1; omega) (one_of h2 c5).1 (one_of h2 c5).2
    have hj8 : j < 8 := Nat.lt_of_lt_of_le hj w.1
    have hcl : t.toNatClampNeg = j := by rw [ej]; exact nI_clamp (by omega)
    obtain ⟨a, eR, ha, ht, ek, ep, er, ef, -, -⟩ := hs.th w V hj
    refine r_aload_n dX8_about_11 rfl ?_
    refine r_getR flX8_25_8 rfl (hs.lt (by decide)) (hs.T 0 rfl) (hs.R 0 2 rfl) dX8_about_12 ?_
    refine r_iload_n dX8_about_15 rfl ?_
    refine r_aal (hs.T 8 rfl) (hs.lt (by decide)) (ix_of ej hj8 (by decide)) eR dX8_about_16 ?_
    refine r_astore_n dX8_about_17 (by decide) rfl ?_
    refine r_iload_n dX8_about_18 rfl ?_
    by_cases w0 : v = 0
    · skip
      subst w0
      refine r_tableIn 56 (off := 37) dX8_about_19 (by decide) (by decide) (by decide) (by decide) ?_
      refine r_aload_n dX8_about_56 rfl ?_
      refine r_v_kind rfl ha ht ⟨Nat.le_of_ble_eq_true rfl, Nat.le_of_ble_eq_true rfl⟩ (Nat.le_of_ble_eq_true rfl) ⟨Nat.le_of_ble_eq_true rfl, Nat.le_of_ble_eq_true rfl⟩ dX8_about_57 ?_
      exact r_iret dX8_about_60 ⟨_, rfl, rfl, by rw [aboutR, if_pos (one_of h2 c5)]; simp [hcl]; exact by rw [ek]⟩
    · skip
      by_cases w1 : v = 1
      · skip
        subst w1
        refine r_tableIn 61 (off := 42) dX8_about_19 (by decide) (by decide) (by decide) (by decide) ?_
        refine r_aload_n dX8_about_61 rfl ?_
        refine r_getTh flX8_141_7 flX8_141_6 flX8_141_0 flX8_141_2 flX8_141_3 (by decide) ha ht dX8_about_62 ?_
        exact r_iret dX8_about_65 ⟨_, rfl, rfl, by rw [aboutR, if_pos (one_of h2 c5)]; simp [hcl]; exact ep⟩
      · skip
        by_cases w2 : v = 2
        · skip
          subst w2
          refine r_tableIn 66 (off := 47) dX8_about_19 (by decide) (by decide) (by decide) (by decide) ?_
          refine r_aload_n dX8_about_66 rfl ?_
          refine r_getTh flX8_144_7 flX8_144_6 flX8_144_0 flX8_144_2 flX8_144_3 (by decide) ha ht dX8_about_67 ?_
          exact r_iret dX8_about_70 ⟨_, rfl, rfl, by rw [aboutR, if_pos (one_of h2 c5)]; simp [hcl]; exact er⟩
        · skip
          by_cases w3 : v = 3
          · skip
            subst w3
            refine r_tableIn 71 (off := 52) dX8_about_19 (by decide) (by decide) (by decide) (by decide) ?_
            refine r_aload_n dX8_about_71 rfl ?_
            refine r_getTh flX8_146_7 flX8_146_6 flX8_146_0 flX8_146_2 flX8_146_3 (by decide) ha ht dX8_about_72 ?_
            exact r_iret dX8_about_75 ⟨_, rfl, rfl, by rw [aboutR, if_pos (one_of h2 c5)]; simp [hcl]; exact ef⟩
          · skip
            by_cases w4 : v = 4
            · skip
              subst w4
              refine r_tableIn 76 (off := 57) dX8_about_19 (by decide) (by decide) (by decide) (by decide) ?_
              refine r_aload_n dX8_about_76 rfl ?_
              refine r_getR flX8_39_8 rfl (hs.lt (by decide)) (hs.T 0 rfl) (hs.R 0 5 rfl) dX8_about_77 ?_
              refine r_getR flX8_126_1 rfl (hs.lt (by decide)) (hs.T 11 rfl) (hs.R 11 4 rfl) dX8_about_80 ?_
              refine r_iload_n dX8_about_83 rfl ?_
              refine r_zal (hs.T 16 rfl) (hs.lt (by decide)) (ix_of ej hj8 (by decide)) dX8_about_84 ?_
              refine r_cS1i csX8_149 (kX8_asNumber g M (mI M 16 j)) hs.pos ⟨Nat.le_of_ble_eq_true rfl, Nat.le_of_ble_eq_true rfl⟩ (Nat.le_of_ble_eq_true rfl) ⟨Nat.le_of_ble_eq_true rfl, Nat.le_of_ble_eq_true rfl⟩ dX8_about_85 (fun r85 M85 h85 => ?_)
              obtain ⟨e85, h85⟩ := h85
              replace e85 := e85.symm
              subst e85
              exact r_iret dX8_about_88 ⟨_, rfl, rfl, by rw [aboutR, if_pos (one_of h2 c5)]; simp [hcl]; exact (by rw [h85]; have := D.2.2.2 j hj; rw [show mI M 16 j = yq δ j from this.1]; rcases this.2 with e | e <;> rw [e] <;> rfl)⟩
            · skip
              by_cases w5 : v = 5
              · skip
                subst w5
                refine r_tableIn 89 (off := 70) dX8_about_19 (by decide) (by decide) (by decide) (by decide) ?_
                refine r_aload_n dX8_about_89 rfl ?_
                refine r_getR flX8_39_8 rfl (hs.lt (by decide)) (hs.T 0 rfl) (hs.R 0 5 rfl) dX8_about_90 ?_
                refine r_getR flX8_130_1 rfl (hs.lt (by decide)) (hs.T 11 rfl) (hs.R 11 5 rfl) dX8_about_93 ?_
                refine r_iload_n dX8_about_96 rfl ?_
                refine r_ial (hs.T 17 rfl) (hs.lt (by decide)) (ix_of ej hj8 (by decide)) dX8_about_97 ?_
                exact r_iret dX8_about_98 ⟨_, rfl, rfl, by rw [aboutR, if_pos (one_of h2 c5)]; simp [hcl]; exact D3 j hj⟩
              · skip
                refine r_tableOut 99 dX8_about_19 (by have q0 := lv_neT w0 (a := 0) (by decide); have q1 := lv_neT w1 (a := 1) (by decide); have q2 := lv_neT w2 (a := 2) (by decide); have q3 := lv_neT w3 (a := 3) (by decide); have q4 := lv_neT w4 (a := 4) (by decide); have q5 := lv_neT w5 (a := 5) (by decide); omega) (by decide) ?_
                refine r_bipush (v := -102) dX8_about_99 (by decide) ?_
                exact r_iret dX8_about_101 ⟨_, rfl, rfl, by rw [aboutR, if_pos (one_of h2 c5)]; simp [*]⟩
  · skip
    refine r_bipush (v := -101) dX8_about_8 (by decide) ?_
    exact r_iret dX8_about_10 ⟨_, rfl, rfl, by rw [aboutR, if_neg (zero_of h2 c5)]⟩
def rmX8_isOfKind : Room := { frames := 0, cells := 0, slots := 0, locals := 0 }
set_option maxHeartbeats 4000000 in
set_option maxRecDepth 100000 in
theorem kX8_isOfKind (g : Gx) (M : Mm) (hs : St M) (a : Nat) (ha : a < mN M) (ht : isTh (mT M a)) (v : Int32) : Ct g yX8_isOfKind cX8_isOfKind 2 (some .boolean) rmX8_isOfKind [.ref (g.1 + a), .int v] M (pI fun r M' => M' = M ∧ r = (if v = 1 then (if kiS (mT M a) = 1 ∨ kiS (mT M a) = 4 then 1 else 0) else if v = 2 then (if kiS (mT M a) = 2 then 1 else 0) else if v = 3 then (if kiS (mT M a) = 3 then 1 else 0) else if v = 4 then (if kiS (mT M a) = 4 then 1 else 0) else 1)) := by
  refine Ct.of rfl (Nat.le_of_ble_eq_true rfl) (fun x => ?_)
  refine r_iload_n dX8_isOfKind_0 rfl ?_
  by_cases w1 : v = 1
  · subst w1
    refine r_tableIn 32 (off := 31) dX8_isOfKind_1 (by decide) (by decide) (by decide) (by decide) ?_
    refine r_aload_n dX8_isOfKind_32 rfl ?_
    rcases ht with ht | ht | ht | ht | ht
    · refine r_instN (r := (RX7, TX7, 3)) (nm := RX6) tw300 ha ht rfl (by decide) dX8_isOfKind_33 ?_
      exact r_zret (nar_bool (by simp)) dX8_isOfKind_36 ⟨_, rfl, rfl, by rw [ht]; decide⟩
    · refine r_instS (r := (RX6, TX6, 3)) tw300 ha ht rfl dX8_isOfKind_33 ?_
      exact r_zret (nar_bool (by simp)) dX8_isOfKind_36 ⟨_, rfl, rfl, by rw [ht]; decide⟩
    · refine r_instN (r := (RX0, TX0, 3)) (nm := RX6) tw300 ha ht rfl (by decide) dX8_isOfKind_33 ?_
      exact r_zret (nar_bool (by simp)) dX8_isOfKind_36 ⟨_, rfl, rfl, by rw [ht]; decide⟩
    · refine r_instN (r := (RX2, TX2, 3)) (nm := RX6) tw300 ha ht rfl (by decide) dX8_isOfKind_33 ?_
      exact r_zret (nar_bool (by simp)) dX8_isOfKind_36 ⟨_, rfl, rfl, by rw [ht]; decide⟩
    · refine r_instY (r := (RX3, TX3, 3)) (nm := RX6) tw300 ha ht rfl (by decide) dX8_isOfKind_33 ?_
      exact r_zret (nar_bool (by simp)) dX8_isOfKind_36 ⟨_, rfl, rfl, by rw [ht]; decide⟩
  · skip
    by_cases w2 : v = 2
    · subst w2
      refine r_tableIn 37 (off := 36) dX8_isOfKind_1 (by decide) (by decide) (by decide) (by decide) ?_
      refine r_aload_n dX8_isOfKind_37 rfl ?_
      rcases ht with ht | ht | ht | ht | ht
      · refine r_instN (r := (RX7, TX7, 3)) (nm := RX0) tw310 ha ht rfl (by decide) dX8_isOfKind_38 ?_
        exact r_zret (nar_bool (by simp)) dX8_isOfKind_41 ⟨_, rfl, rfl, by rw [ht]; decide⟩
      · refine r_instN (r := (RX6, TX6, 3)) (nm := RX0) tw310 ha ht rfl (by decide) dX8_isOfKind_38 ?_
        exact r_zret (nar_bool (by simp)) dX8_isOfKind_41 ⟨_, rfl, rfl, by rw [ht]; decide⟩
      · refine r_instS (r := (RX0, TX0, 3)) tw310 ha ht rfl dX8_isOfKind_38 ?_
        exact r_zret (nar_bool (by simp)) dX8_isOfKind_41 ⟨_, rfl, rfl, by rw [ht]; decide⟩
      · refine r_instN (r := (RX2, TX2, 3)) (nm := RX0) tw310 ha ht rfl (by decide) dX8_isOfKind_38 ?_
        exact r_zret (nar_bool (by simp)) dX8_isOfKind_41 ⟨_, rfl, rfl, by rw [ht]; decide⟩
      · refine r_instN (r := (RX3, TX3, 3)) (nm := RX0) tw310 ha ht rfl (by decide) dX8_isOfKind_38 ?_
        exact r_zret (nar_bool (by simp)) dX8_isOfKind_41 ⟨_, rfl, rfl, by rw [ht]; decide⟩
    · skip
      by_cases w3 : v = 3
      · subst w3
        refine r_tableIn 42 (off := 41) dX8_isOfKind_1 (by decide) (by decide) (by decide) (by decide) ?_
        refine r_aload_n dX8_isOfKind_42 rfl ?_
        rcases ht with ht | ht | ht | ht | ht
        · refine r_instN (r := (RX7, TX7, 3)) (nm := RX2) tw320 ha ht rfl (by decide) dX8_isOfKind_43 ?_
          exact r_zret (nar_bool (by simp)) dX8_isOfKind_46 ⟨_, rfl, rfl, by rw [ht]; decide⟩
        · refine r_instN (r := (RX6, TX6, 3)) (nm := RX2) tw320 ha ht rfl (by decide) dX8_isOfKind_43 ?_
          exact r_zret (nar_bool (by simp)) dX8_isOfKind_46 ⟨_, rfl, rfl, by rw [ht]; decide⟩
        · refine r_instN (r := (RX0, TX0, 3)) (nm := RX2) tw320 ha ht rfl (by decide) dX8_isOfKind_43 ?_
          exact r_zret (nar_bool (by simp)) dX8_isOfKind_46 ⟨_, rfl, rfl, by rw [ht]; decide⟩
        · refine r_instS (r := (RX2, TX2, 3)) tw320 ha ht rfl dX8_isOfKind_43 ?_
          exact r_zret (nar_bool (by simp)) dX8_isOfKind_46 ⟨_, rfl, rfl, by rw [ht]; decide⟩
        · refine r_instN (r := (RX3, TX3, 3)) (nm := RX2) tw320 ha ht rfl (by decide) dX8_isOfKind_43 ?_
          exact r_zret (nar_bool (by simp)) dX8_isOfKind_46 ⟨_, rfl, rfl, by rw [ht]; decide⟩
      · skip
        by_cases w4 : v = 4
        · subst w4
          refine r_tableIn 47 (off := 46) dX8_isOfKind_1 (by decide) (by decide) (by decide) (by decide) ?_
          refine r_aload_n dX8_isOfKind_47 rfl ?_
          rcases ht with ht | ht | ht | ht | ht
          · refine r_instN (r := (RX7, TX7, 3)) (nm := RX3) tw330 ha ht rfl (by decide) dX8_isOfKind_48 ?_
            exact r_zret (nar_bool (by simp)) dX8_isOfKind_51 ⟨_, rfl, rfl, by rw [ht]; decide⟩
          · refine r_instN (r := (RX6, TX6, 3)) (nm := RX3) tw330 ha ht rfl (by decide) dX8_isOfKind_48 ?_
            exact r_zret (nar_bool (by simp)) dX8_isOfKind_51 ⟨_, rfl, rfl, by rw [ht]; decide⟩
          · refine r_instN (r := (RX0, TX0, 3)) (nm := RX3) tw330 ha ht rfl (by decide) dX8_isOfKind_48 ?_
            exact r_zret (nar_bool (by simp)) dX8_isOfKind_51 ⟨_, rfl, rfl, by rw [ht]; decide⟩
          · refine r_instN (r := (RX2, TX2, 3)) (nm := RX3) tw330 ha ht rfl (by decide) dX8_isOfKind_48 ?_
            exact r_zret (nar_bool (by simp)) dX8_isOfKind_51 ⟨_, rfl, rfl, by rw [ht]; decide⟩
          · refine r_instS (r := (RX3, TX3, 3)) tw330 ha ht rfl dX8_isOfKind_48 ?_
            exact r_zret (nar_bool (by simp)) dX8_isOfKind_51 ⟨_, rfl, rfl, by rw [ht]; decide⟩
        · skip
          refine r_tableOut 52 dX8_isOfKind_1 (by have q1 := lv_neT w1 (a := 1) (by decide); have q2 := lv_neT w2 (a := 2) (by decide); have q3 := lv_neT w3 (a := 3) (by decide); have q4 := lv_neT w4 (a := 4) (by decide); omega) (by decide) ?_
          refine r_iconst (v := 1) dX8_isOfKind_52 (by decide) ?_
          exact r_zret (nar_bool (by simp)) dX8_isOfKind_53 ⟨_, rfl, rfl, by simp [w1, w2, w3, w4]⟩
def rmX8_as : Room := { frames := 1, cells := 0, slots := 0, locals := 21 }
theorem asX {k : Nat} {v t r : Int32} (hk : k < 5) (h0 : 0 ≤ v) (h4 : v ≤ 4) (h : r = (if v = 1 then (if k = 1 ∨ k = 4 then 1 else 0) else if v = 2 then (if k = 2 then 1 else 0) else if v = 3 then (if k = 3 then 1 else 0) else if v = 4 then (if k = 4 then 1 else 0) else 1)) : (¬ r = 0 → t = if v = 0 ∨ v = nI k ∨ (v = 1 ∧ k = 4) then t else -1) ∧ (r = 0 → (-1 : Int32) = if v = 0 ∨ v = nI k ∨ (v = 1 ∧ k = 4) then t else -1) := by
  obtain ⟨m, hm, em⟩ := ix_ex (i := v) (n := 5) (by decide) h0 (by show v < 5; grind)
  subst em
  have e : ∀ c : Nat, c < 5 → (nI m = nI c ↔ m = c) := fun c hc => nI_eq (by omega) (by omega)
  have e1 := e 1 (by decide); have e2 := e 2 (by decide); have e3 := e 3 (by decide); have e4 := e 4 (by decide); have e0 := e 0 (by decide); have ek := e k hk
  have h' : r = (if nI m = nI 1 then (if k = 1 ∨ k = 4 then 1 else 0) else if nI m = nI 2 then (if k = 2 then 1 else 0) else if nI m = nI 3 then (if k = 3 then 1 else 0) else if nI m = nI 4 then (if k = 4 then 1 else 0) else 1) := h
  show (¬ r = 0 → t = if nI m = nI 0 ∨ nI m = nI k ∨ (nI m = nI 1 ∧ k = 4) then t else -1) ∧ (r = 0 → (-1 : Int32) = if nI m = nI 0 ∨ nI m = nI k ∨ (nI m = nI 1 ∧ k = 4) then t else -1)
  simp only [e0, e1, e2, e3, e4, ek] at h' ⊢
  rcases (show m = 0 ∨ m = 1 ∨ m = 2 ∨ m = 3 ∨ m = 4 by omega) with q | q | q | q | q <;> rcases (show k = 0 ∨ k = 1 ∨ k = 2 ∨ k = 3 ∨ k = 4 by omega) with z | z | z | z | z <;> subst q <;> subst z <;> simp at h' ⊢ <;> simp [h']
set_option maxHeartbeats 4000000 in
set_option maxRecDepth 100000 in
theorem kX8_as (g : Gx) (M : Mm) (σ : Ab) (δ : Dy) (K : CA σ δ M) (t v : Int32) : Ct g yX8_as cX8_as 3 (Option.some FieldType.int) rmX8_as [.ref (g.1 + 0), .int t, .int v] M (pI fun r M' => M' = M ∧ r = asR σ t v) := by
  obtain ⟨hs, w, dw, V, D, D2, D3, D4, D5, D6⟩ := id K
  refine Ct.of rfl (Nat.le_of_ble_eq_true rfl) (fun x => ?_)
  refine r_aload_n dX8_as_0 rfl ?_
  refine r_iload_n dX8_as_1 rfl ?_
  refine r_cV1i cvX8_133 (kX8_isThief g M hs t) (hs.lt (by decide)) (hs.T 0 rfl) ⟨Nat.le_of_ble_eq_true rfl, Nat.le_of_ble_eq_true rfl⟩ (Nat.le_of_ble_eq_true rfl) ⟨Nat.le_of_ble_eq_true rfl, Nat.le_of_ble_eq_true rfl⟩ dX8_as_2 (fun r2 M2 h2 => ?_)
  obtain ⟨e2, h2⟩ := h2
  replace e2 := e2.symm
  subst e2
  rw [V.1] at h2
  refine r_if_ne 11 dX8_as_5 (by decide) (fun c5 => ?_) (fun c5 => ?_)
  · skip
    obtain ⟨j, hj, ej⟩ := ix_ex (by have := w.1; omega) (one_of h2 c5).1 (one_of h2 c5).2
    have hj8 : j < 8 := Nat.lt_of_lt_of_le hj w.1
    have hcl : t.toNatClampNeg = j := by rw [ej]; exact nI_clamp (by omega)
    obtain ⟨a, eR, ha, ht, ek, ep, er, ef, -, -⟩ := hs.th w V hj
    refine r_iload_n dX8_as_11 rfl ?_
    refine r_if_lt 20 dX8_as_12 (by decide) (fun c12 => ?_) (fun c12 => ?_)
    · skip
      refine r_bipush (v := -102) dX8_as_20 (by decide) ?_
      exact r_iret dX8_as_22 ⟨_, rfl, rfl, by rw [asR, if_pos (one_of h2 c5), if_neg (by grind)]⟩
    · skip
      refine r_iload_n dX8_as_15 rfl ?_
      refine r_iconst (v := 4) dX8_as_16 (by decide) ?_
      refine r_icmp_le 23 dX8_as_17 (by decide) (fun c17 => ?_) (fun c17 => ?_)
      · skip
        refine r_aload_n dX8_as_23 rfl ?_
        refine r_getR flX8_25_8 rfl (hs.lt (by decide)) (hs.T 0 rfl) (hs.R 0 2 rfl) dX8_as_24 ?_
        refine r_iload_n dX8_as_27 rfl ?_
        refine r_aal (hs.T 8 rfl) (hs.lt (by decide)) (ix_of ej hj8 (by decide)) eR dX8_as_28 ?_
        refine r_iload_n dX8_as_29 rfl ?_
        refine r_cS2i csX8_153 (kX8_isOfKind g M hs a ha ht v) hs.pos ⟨Nat.le_of_ble_eq_true rfl, Nat.le_of_ble_eq_true rfl⟩ (Nat.le_of_ble_eq_true rfl) ⟨Nat.le_of_ble_eq_true rfl, Nat.le_of_ble_eq_true rfl⟩ dX8_as_30 (fun r30 M30 h30 => ?_)
        obtain ⟨e30, h30⟩ := h30
        replace e30 := e30.symm
        subst e30
        rw [ek] at h30
        have hk5 := (w.2.2.1 j hj).1
        refine r_if_eq 40 dX8_as_33 (by decide) (fun c33 => ?_) (fun c33 => ?_)
        · skip
          have hfin := (asX (t := t) hk5 (by grind) (by grind) h30).2 c33
          refine r_iconst (v := -1) dX8_as_40 (by decide) ?_
          exact r_iret dX8_as_41 ⟨_, rfl, rfl, by rw [asR, if_pos (one_of h2 c5), if_pos (by grind), hcl]; exact hfin⟩
        · skip
          have hfin := (asX (t := t) hk5 (by grind) (by grind) h30).1 c33
          refine r_iload_n dX8_as_36 rfl ?_
          refine r_goto 41 dX8_as_37 (by decide) ?_
          exact r_iret dX8_as_41 ⟨_, rfl, rfl, by rw [asR, if_pos (one_of h2 c5), if_pos (by grind), hcl]; exact hfin⟩
      · skip
        refine r_bipush (v := -102) dX8_as_20 (by decide) ?_
        exact r_iret dX8_as_22 ⟨_, rfl, rfl, by rw [asR, if_pos (one_of h2 c5), if_neg (by grind)]⟩
  · skip
    refine r_bipush (v := -101) dX8_as_8 (by decide) ?_
    exact r_iret dX8_as_10 ⟨_, rfl, rfl, by rw [asR, if_neg (zero_of h2 c5)]⟩
def rmX8_silver : Room := { frames := 1, cells := 0, slots := 0, locals := 21 }
set_option maxHeartbeats 4000000 in
set_option maxRecDepth 100000 in
theorem kX8_silver (g : Gx) (M : Mm) (σ : Ab) (δ : Dy) (K : CA σ δ M) (t v : Int32) : Ct g yX8_silver cX8_silver 3 (Option.some FieldType.int) rmX8_silver [.ref (g.1 + 0), .int t, .int v] M (pI fun r M' => M' = M ∧ r = silR σ δ t v) := by
  obtain ⟨hs, w, dw, V, D, D2, D3, D4, D5, D6⟩ := id K
  refine Ct.of rfl (Nat.le_of_ble_eq_true rfl) (fun x => ?_)
  refine r_aload_n dX8_silver_0 rfl ?_
  refine r_iload_n dX8_silver_1 rfl ?_
  refine r_cV1i cvX8_172 (kX8_isSpoon g M hs t) (hs.lt (by decide)) (hs.T 0 rfl) ⟨Nat.le_of_ble_eq_true rfl, Nat.le_of_ble_eq_true rfl⟩ (Nat.le_of_ble_eq_true rfl) ⟨Nat.le_of_ble_eq_true rfl, Nat.le_of_ble_eq_true rfl⟩ dX8_silver_2 (fun r2 M2 h2 => ?_)
  obtain ⟨e2, h2⟩ := h2
  replace e2 := e2.symm
  subst e2
  rw [V.2.1] at h2
  refine r_if_ne 11 dX8_silver_5 (by decide) (fun c5 => ?_) (fun c5 => ?_)
  · skip
    obtain ⟨j, hj, ej⟩ := ix_ex (by have := w.2.1; omega) (one_of h2 c5).1 (one_of h2 c5).2
    have hj8 : j < 8 := Nat.lt_of_lt_of_le hj w.2.1
    have hcl : t.toNatClampNeg = j := by rw [ej]; exact nI_clamp (by omega)
    refine r_iload_n dX8_silver_11 rfl ?_
    by_cases w0 : v = 0
    · skip
      subst w0
      refine r_tableIn 44 (off := 32) dX8_silver_12 (by decide) (by decide) (by decide) (by decide) ?_
      refine r_aload_n dX8_silver_44 rfl ?_
      refine r_getR flX8_29_8 rfl (hs.lt (by decide)) (hs.T 0 rfl) (hs.R 0 3 rfl) dX8_silver_45 ?_
      refine r_iload_n dX8_silver_48 rfl ?_
      refine r_ial (hs.T 9 rfl) (hs.lt (by decide)) (ix_of ej hj8 (by decide)) dX8_silver_49 ?_
      exact r_iret dX8_silver_50 ⟨_, rfl, rfl, by rw [silR, if_pos (one_of h2 c5)]; simp [hcl]; exact (V.2.2.2 j hj).1⟩
    · skip
      by_cases w1 : v = 1
      · skip
        subst w1
        refine r_tableIn 51 (off := 39) dX8_silver_12 (by decide) (by decide) (by decide) (by decide) ?_
        refine r_aload_n dX8_silver_51 rfl ?_
        refine r_getR flX8_33_8 rfl (hs.lt (by decide)) (hs.T 0 rfl) (hs.R 0 4 rfl) dX8_silver_52 ?_
        refine r_iload_n dX8_silver_55 rfl ?_
        refine r_ial (hs.T 10 rfl) (hs.lt (by decide)) (ix_of ej hj8 (by decide)) dX8_silver_56 ?_
        exact r_iret dX8_silver_57 ⟨_, rfl, rfl, by rw [silR, if_pos (one_of h2 c5)]; simp [hcl]; exact (V.2.2.2 j hj).2⟩
      · skip
        by_cases w2 : v = 2
        · skip
          subst w2
          refine r_tableIn 58 (off := 46) dX8_silver_12 (by decide) (by decide) (by decide) (by decide) ?_
          refine r_aload_n dX8_silver_58 rfl ?_
          refine r_getR flX8_39_8 rfl (hs.lt (by decide)) (hs.T 0 rfl) (hs.R 0 5 rfl) dX8_silver_59 ?_
          refine r_getR flX8_166_1 rfl (hs.lt (by decide)) (hs.T 11 rfl) (hs.R 11 0 rfl) dX8_silver_62 ?_
          refine r_iload_n dX8_silver_65 rfl ?_
          refine r_ial (hs.T 12 rfl) (hs.lt (by decide)) (ix_of ej hj8 (by decide)) dX8_silver_66 ?_
          exact r_iret dX8_silver_67 ⟨_, rfl, rfl, by rw [silR, if_pos (one_of h2 c5)]; simp [hcl]; exact D.1 j hj⟩
        · skip
          by_cases w3 : v = 3
          · skip
            subst w3
            refine r_tableIn 68 (off := 56) dX8_silver_12 (by decide) (by decide) (by decide) (by decide) ?_
            refine r_aload_n dX8_silver_68 rfl ?_
            refine r_getR flX8_39_8 rfl (hs.lt (by decide)) (hs.T 0 rfl) (hs.R 0 5 rfl) dX8_silver_69 ?_
            refine r_getR flX8_169_1 rfl (hs.lt (by decide)) (hs.T 11 rfl) (hs.R 11 1 rfl) dX8_silver_72 ?_
            refine r_iload_n dX8_silver_75 rfl ?_
            refine r_ial (hs.T 13 rfl) (hs.lt (by decide)) (ix_of ej hj8 (by decide)) dX8_silver_76 ?_
            exact r_iret dX8_silver_77 ⟨_, rfl, rfl, by rw [silR, if_pos (one_of h2 c5)]; simp [hcl]; exact D2 j hj⟩
          · skip
            refine r_tableOut 78 dX8_silver_12 (by have q0 := lv_neT w0 (a := 0) (by decide); have q1 := lv_neT w1 (a := 1) (by decide); have q2 := lv_neT w2 (a := 2) (by decide); have q3 := lv_neT w3 (a := 3) (by decide); omega) (by decide) ?_
            refine r_bipush (v := -102) dX8_silver_78 (by decide) ?_
            exact r_iret dX8_silver_80 ⟨_, rfl, rfl, by rw [silR, if_pos (one_of h2 c5)]; simp [*]⟩
  · skip
    refine r_bipush (v := -101) dX8_silver_8 (by decide) ?_
    exact r_iret dX8_silver_10 ⟨_, rfl, rfl, by rw [silR, if_neg (zero_of h2 c5)]⟩
def rmX8_count : Room := { frames := 1, cells := 0, slots := 0, locals := 22 }
set_option maxHeartbeats 4000000 in
set_option maxRecDepth 100000 in
theorem kX8_count (g : Gx) (M : Mm) (σ : Ab) (δ : Dy) (K : CA σ δ M) (v : Int32) : Ct g yX8_count cX8_count 2 (Option.some FieldType.int) rmX8_count [.ref (g.1 + 0), .int v] M (pI fun r M' => M' = M ∧ r = (if v = 0 then nI (zN σ) else if v = 1 then nI (zS σ) else if v = 2 then ym δ else if v = 3 then yf δ else if v = 4 then mI M 1 1 else if v = 5 then awaF σ (yp δ) else if v = 6 then mI M 0 14 else -102)) := by
  obtain ⟨hs, w, dw, V, D, D2, D3, D4, D5, D6⟩ := id K
  refine Ct.of rfl (Nat.le_of_ble_eq_true rfl) (fun x => ?_)
  refine r_iload_n dX8_count_0 rfl ?_
  by_cases w0 : v = 0
  · skip
    subst w0
    refine r_tableIn 44 (off := 43) dX8_count_1 (by decide) (by decide) (by decide) (by decide) ?_
    refine r_aload_n dX8_count_44 rfl ?_
    refine r_getI flX8_62_8 rfl (hs.lt (by decide)) (hs.T 0 rfl) dX8_count_45 ?_
    exact r_iret dX8_count_48 ⟨_, rfl, rfl, by simp; exact V.1⟩
  · skip
    by_cases w1 : v = 1
    · skip
      subst w1
      refine r_tableIn 49 (off := 48) dX8_count_1 (by decide) (by decide) (by decide) (by decide) ?_
      refine r_aload_n dX8_count_49 rfl ?_
      refine r_getI flX8_66_8 rfl (hs.lt (by decide)) (hs.T 0 rfl) dX8_count_50 ?_
      exact r_iret dX8_count_53 ⟨_, rfl, rfl, by simp; exact V.2.1⟩
    · skip
      by_cases w2 : v = 2
      · skip
        subst w2
        refine r_tableIn 54 (off := 53) dX8_count_1 (by decide) (by decide) (by decide) (by decide) ?_
        refine r_aload_n dX8_count_54 rfl ?_
        refine r_getR flX8_39_8 rfl (hs.lt (by decide)) (hs.T 0 rfl) (hs.R 0 5 rfl) dX8_count_55 ?_
        refine r_getI flX8_182_1 rfl (hs.lt (by decide)) (hs.T 11 rfl) dX8_count_58 ?_
        exact r_iret dX8_count_61 ⟨_, rfl, rfl, by simp; exact D4⟩
      · skip
        by_cases w3 : v = 3
        · skip
          subst w3
          refine r_tableIn 62 (off := 61) dX8_count_1 (by decide) (by decide) (by decide) (by decide) ?_
          refine r_aload_n dX8_count_62 rfl ?_
          refine r_getR flX8_39_8 rfl (hs.lt (by decide)) (hs.T 0 rfl) (hs.R 0 5 rfl) dX8_count_63 ?_
          refine r_getI flX8_179_1 rfl (hs.lt (by decide)) (hs.T 11 rfl) dX8_count_66 ?_
          exact r_iret dX8_count_69 ⟨_, rfl, rfl, by simp; exact D5⟩
        · skip
          by_cases w4 : v = 4
          · skip
            subst w4
            refine r_tableIn 70 (off := 69) dX8_count_1 (by decide) (by decide) (by decide) (by decide) ?_
            refine r_aload_n dX8_count_70 rfl ?_
            refine r_getR flX8_12_8 rfl (hs.lt (by decide)) (hs.T 0 rfl) (hs.R 0 0 rfl) dX8_count_71 ?_
            refine r_getI flX8_89_4 rfl (hs.lt (by decide)) (hs.T 1 rfl) dX8_count_74 ?_
            exact r_iret dX8_count_77 ⟨_, rfl, rfl, by simp [*]⟩
          · skip
            by_cases w5 : v = 5
            · skip
              subst w5
              refine r_tableIn 78 (off := 77) dX8_count_1 (by decide) (by decide) (by decide) (by decide) ?_
              refine r_aload_n dX8_count_78 rfl ?_
              refine r_cV0i cvX8_248 (kX8_spoonsAway g M σ δ K) (hs.lt (by decide)) (hs.T 0 rfl) ⟨Nat.le_of_ble_eq_true rfl, Nat.le_of_ble_eq_true rfl⟩ (Nat.le_of_ble_eq_true rfl) ⟨Nat.le_of_ble_eq_true rfl, Nat.le_of_ble_eq_true rfl⟩ dX8_count_79 (fun r79 M79 h79 => ?_)
              obtain ⟨e79, h79⟩ := h79
              replace e79 := e79.symm
              subst e79
              exact r_iret dX8_count_82 ⟨_, rfl, rfl, by simp [*]⟩
            · skip
              by_cases w6 : v = 6
              · skip
                subst w6
                refine r_tableIn 83 (off := 82) dX8_count_1 (by decide) (by decide) (by decide) (by decide) ?_
                refine r_aload_n dX8_count_83 rfl ?_
                refine r_getI flX8_69_8 rfl (hs.lt (by decide)) (hs.T 0 rfl) dX8_count_84 ?_
                exact r_iret dX8_count_87 ⟨_, rfl, rfl, by simp [*]⟩
              · skip
                refine r_tableOut 88 dX8_count_1 (by have q0 := lv_neT w0 (a := 0) (by decide); have q1 := lv_neT w1 (a := 1) (by decide); have q2 := lv_neT w2 (a := 2) (by decide); have q3 := lv_neT w3 (a := 3) (by decide); have q4 := lv_neT w4 (a := 4) (by decide); have q5 := lv_neT w5 (a := 5) (by decide); have q6 := lv_neT w6 (a := 6) (by decide); omega) (by decide) ?_
                refine r_bipush (v := -102) dX8_count_88 (by decide) ?_
                exact r_iret dX8_count_90 ⟨_, rfl, rfl, by simp [*]⟩
def rmX8_where : Room := { frames := 4, cells := 0, slots := 0, locals := 99 }
set_option maxHeartbeats 4000000 in
set_option maxRecDepth 100000 in
theorem lp_where (g : Gx) (x : Cx) (M : Mm) (σ : Ab) (δ : Dy) (K : CA σ δ M) (t m : Int32) (j mm : Nat) (hj : j < zS σ) (ej : t = nI j) (em : m = nI mm) (hmm : mm ≤ 60) (PP : Rw) (hR : wheR σ δ t m = PP j) : ∀ (n : Nat) (i : Nat) (v : Int32) (M1 : Mm) (lo1 ps1 : Rw), i ≤ mm → mm - i < n → v = nI i → Fr (cF 25) [] M M1 → CD 25 M1 σ (yq δ) (yd δ) lo1 ps1 → (∀ h, h < 8 → 0 ≤ lo1 h) → (itF σ (yq δ) (yd δ) (mm - i) ps1 lo1).1 = PP → Vj x g yX8_where cX8_where 4 (Option.some FieldType.int) rmX8_where (Qm x g rmX8_where.cells rmX8_where.slots (pI fun r M' => Fr (cF 25) [] M M' ∧ r = wheR σ δ t m)) 0 0 M1 47 [(0, some (.ref (g.1 + 0))), (1, some (.int t)), (2, some (.int m)), (3, some (.int v))] [] := by
  intro n
  induction n with
  | zero => intro i v M1 lo1 ps1 him hn hv hF D1 hlo1 eQ; omega
  | succ n ih =>
    intro i v M1 lo1 ps1 him hn hv hF D1 hlo1 eQ
    obtain ⟨hs, w, dw, V, D, D2, D3, D4, D5, D6⟩ := id K
    have hs1 := hs.fr hF
    have hj8 : j < 8 := Nat.lt_of_lt_of_le hj w.2.1
    have V1 := V.fr hs w hF (by intro a ha; rw [cF_in] at ha; omega)
    refine r_iload_n dX8_where_47 rfl ?_
    refine r_iload_n dX8_where_48 rfl ?_
    refine r_icmp_ge 68 dX8_where_49 (by decide) (fun c49 => ?_) (fun c49 => ?_)
    · skip
      rw [lp_ge (n := mm) hv em c49 him (by omega), Nat.sub_self] at eQ
      refine r_aload_n dX8_where_68 rfl ?_
      refine r_getR flX8_46_8 rfl (hs1.lt (by decide)) (hs1.T 0 rfl) (hs1.R 0 7 rfl) dX8_where_69 ?_
      refine r_getR flX8_166_1 rfl (hs1.lt (by decide)) (hs1.T 25 rfl) (hs1.R 25 0 rfl) dX8_where_72 ?_
      refine r_iload_n dX8_where_75 rfl ?_
      refine r_ial (hs1.T 26 rfl) (hs1.lt (by decide)) (ix_of ej hj8 (by decide)) dX8_where_76 ?_
      exact r_iret dX8_where_77 ⟨_, rfl, hF, by rw [hR, ← eQ]; exact D1.1 j hj⟩
    · skip
      have hi : i < mm := lp_lt (n := mm) hv em c49 him (by omega)
      obtain ⟨n2, en2⟩ : ∃ n2, mm - i = n2 + 1 := ⟨mm - i - 1, by omega⟩
      refine r_aload_n dX8_where_52 rfl ?_
      refine r_aload_n dX8_where_53 rfl ?_
      refine r_getR flX8_46_8 rfl (hs1.lt (by decide)) (hs1.T 0 rfl) (hs1.R 0 7 rfl) dX8_where_54 ?_
      refine r_iconst (v := -1) dX8_where_57 (by decide) ?_
      refine r_cV2i cvX8_185 (kX8_monthWithout g M1 25 (Or.inr (Or.inr rfl)) hs1 σ w V1 (yq δ) (yd δ) lo1 ps1 D1 hlo1 (-1)) (hs1.lt (by decide)) (hs1.T 0 rfl) ⟨Nat.le_of_ble_eq_true rfl, Nat.le_of_ble_eq_true rfl⟩ (Nat.le_of_ble_eq_true rfl) ⟨Nat.le_of_ble_eq_true rfl, Nat.le_of_ble_eq_true rfl⟩ dX8_where_58 (fun r58 M58 h58 => ?_)
      obtain ⟨hF2, -, e3⟩ := h58
      rw [pass_all w] at e3
      refine r_pop dX8_where_61 rfl ?_
      refine r_iinc dX8_where_62 rfl rfl rfl ?_
      refine r_goto 47 dX8_where_65 (by decide) ?_
      exact r_lv (lvSc rfl (lvSc rfl (lvSc rfl (lvSc rfl lvS0)))) (ih (i + 1) _ _ _ _ (by omega) (by omega) (nI_inc hv) (hF.tr (hF2.mono (by intro a ha; simp at ha; rw [cF_in]; omega) (by simp))) e3 (lapF_0 hlo1) (by rw [show mm - (i + 1) = n2 by omega, ← eQ, en2]; rfl))
set_option maxHeartbeats 4000000 in
set_option maxRecDepth 100000 in
theorem kX8_where (g : Gx) (M : Mm) (σ : Ab) (δ : Dy) (K : CA σ δ M) (t m : Int32) : Ct g yX8_where cX8_where 4 (Option.some FieldType.int) rmX8_where [.ref (g.1 + 0), .int t, .int m] M (pI fun r M' => Fr (cF 25) [] M M' ∧ r = wheR σ δ t m) := by
  obtain ⟨hs, w, dw, V, D, D2, D3, D4, D5, D6⟩ := id K
  refine Ct.of rfl (Nat.le_of_ble_eq_true rfl) (fun x => ?_)
  refine r_aload_n dX8_where_0 rfl ?_
  refine r_iload_n dX8_where_1 rfl ?_
  refine r_cV1i cvX8_172 (kX8_isSpoon g M hs t) (hs.lt (by decide)) (hs.T 0 rfl) ⟨Nat.le_of_ble_eq_true rfl, Nat.le_of_ble_eq_true rfl⟩ (Nat.le_of_ble_eq_true rfl) ⟨Nat.le_of_ble_eq_true rfl, Nat.le_of_ble_eq_true rfl⟩ dX8_where_2 (fun r2 M2 h2 => ?_)
  obtain ⟨e2, h2⟩ := h2
  replace e2 := e2.symm
  subst e2
  rw [V.2.1] at h2
  refine r_if_ne 11 dX8_where_5 (by decide) (fun c5 => ?_) (fun c5 => ?_)
  · skip
    obtain ⟨j, hj, ej⟩ := ix_ex (by have := w.2.1; omega) (one_of h2 c5).1 (one_of h2 c5).2
    have hj8 : j < 8 := Nat.lt_of_lt_of_le hj w.2.1
    have hcl : t.toNatClampNeg = j := by rw [ej]; exact nI_clamp (by omega)
    refine r_iload_n dX8_where_11 rfl ?_
    refine r_if_lt 21 dX8_where_12 (by decide) (fun c12 => ?_) (fun c12 => ?_)
    · skip
      refine r_bipush (v := -102) dX8_where_21 (by decide) ?_
      exact r_iret dX8_where_23 ⟨_, rfl, Fr.rf _ _ _, by rw [wheR, if_pos (one_of h2 c5), if_neg (by grind)]⟩
    · skip
      refine r_iload_n dX8_where_15 rfl ?_
      refine r_bipush (v := 60) dX8_where_16 (by decide) ?_
      refine r_icmp_le 24 dX8_where_18 (by decide) (fun c18 => ?_) (fun c18 => ?_)
      · skip
        refine r_aload_n dX8_where_24 rfl ?_
        refine r_getI flX8_62_8 rfl (hs.lt (by decide)) (hs.T 0 rfl) dX8_where_25 ?_
        refine r_if_ne 34 dX8_where_28 (by decide) (fun c28 => ?_) (fun c28 => ?_)
        · skip
          rw [V.1, nI_zero w.1] at c28
          obtain ⟨mm, hmm, em⟩ := ix_ex (i := m) (n := 61) (by decide) (by grind) (by show m < 61; grind)
          have hcm : m.toNatClampNeg = mm := by rw [em]; exact nI_clamp (by omega)
          refine r_aload_n dX8_where_34 rfl ?_
          refine r_getR flX8_46_8 rfl (hs.lt (by decide)) (hs.T 0 rfl) (hs.R 0 7 rfl) dX8_where_35 ?_
          refine r_aload_n dX8_where_38 rfl ?_
          refine r_getR flX8_39_8 rfl (hs.lt (by decide)) (hs.T 0 rfl) (hs.R 0 5 rfl) dX8_where_39 ?_
          refine r_cV1v cvX8_188 (kX1_takeOver g M 25 11 (Or.inr (Or.inr rfl)) (Or.inl rfl) (by decide) hs D6) (hs.lt (by decide)) (hs.T 25 rfl) ⟨Nat.le_of_ble_eq_true rfl, Nat.le_of_ble_eq_true rfl⟩ (Nat.le_of_ble_eq_true rfl) ⟨Nat.le_of_ble_eq_true rfl, Nat.le_of_ble_eq_true rfl⟩ dX8_where_42 (fun M42 h42 => ?_)
          obtain ⟨hF, hcp, h6, h7⟩ := h42
          have CC2 := CC.copy w K.2.2.2.2 hcp h6 h7
          refine r_iconst (v := 0) dX8_where_45 (by decide) ?_
          refine r_istore_n dX8_where_46 (by decide) rfl ?_
          exact r_lv (lvSc rfl (lvSc rfl (lvSc rfl (lvSc rfl lvS0)))) (lp_where g x M σ δ K t m j mm hj ej em (by omega) _ (by rw [wheR, if_pos (one_of h2 c5), if_pos (by grind), if_neg c28, hcl, hcm]; rfl) (mm + 1) 0 0 _ (yl δ) (yp δ) (by omega) (by omega) rfl hF CC2.1 dw.1 rfl)
        · skip
          rw [V.1, nI_zero w.1] at c28
          refine r_bipush (v := -103) dX8_where_31 (by decide) ?_
          exact r_iret dX8_where_33 ⟨_, rfl, Fr.rf _ _ _, by rw [wheR, if_pos (one_of h2 c5), if_pos (by grind), if_pos c28]⟩
      · skip
        refine r_bipush (v := -102) dX8_where_21 (by decide) ?_
        exact r_iret dX8_where_23 ⟨_, rfl, Fr.rf _ _ _, by rw [wheR, if_pos (one_of h2 c5), if_neg (by grind)]⟩
  · skip
    refine r_bipush (v := -101) dX8_where_8 (by decide) ?_
    exact r_iret dX8_where_10 ⟨_, rfl, Fr.rf _ _ _, by rw [wheR, if_neg (zero_of h2 c5)]⟩
def rmX8_still : Room := { frames := 4, cells := 0, slots := 0, locals := 99 }
set_option maxHeartbeats 4000000 in
set_option maxRecDepth 100000 in
theorem lp_still (g : Gx) (x : Cx) (M : Mm) (σ : Ab) (δ : Dy) (K : CA σ δ M) (hR : stiR σ δ = stF σ (yq δ) (yd δ) 61 0 (yp δ) (yl δ)) : ∀ (n : Nat) (i : Nat) (v : Int32) (M1 : Mm) (lo1 ps1 : Rw), i ≤ 61 → 61 - i < n → v = nI i → Fr (cF 25) [] M M1 → CD 25 M1 σ (yq δ) (yd δ) lo1 ps1 → (∀ h, h < 8 → 0 ≤ lo1 h) → stF σ (yq δ) (yd δ) (61 - i) i ps1 lo1 = stF σ (yq δ) (yd δ) 61 0 (yp δ) (yl δ) → Vj x g yX8_still cX8_still 2 (Option.some FieldType.int) rmX8_still (Qm x g rmX8_still.cells rmX8_still.slots (pI fun r M' => Fr (cF 25) [] M M' ∧ r = stiR σ δ)) 0 0 M1 23 [(0, some (.ref (g.1 + 0))), (1, some (.int v))] [] := by
  intro n
  induction n with
  | zero => intro i v M1 lo1 ps1 him hn hv hF D1 hlo1 eQ; omega
  | succ n ih =>
    intro i v M1 lo1 ps1 him hn hv hF D1 hlo1 eQ
    obtain ⟨hs, w, dw, V, D, D2, D3, D4, D5, D6⟩ := id K
    have hs1 := hs.fr hF
    have V1 := V.fr hs w hF (by intro a ha; rw [cF_in] at ha; omega)
    refine r_iload_n dX8_still_23 rfl ?_
    refine r_bipush (v := 60) dX8_still_24 (by decide) ?_
    refine r_icmp_gt 49 dX8_still_26 (by decide) (fun c26 => ?_) (fun c26 => ?_)
    · skip
      have hi61 : i = 61 := by rcases Nat.lt_or_ge i 61 with q | q; exfalso; rw [hv] at c26; have := (nI_ltI (a := 60) (b := i) (by decide) (by omega)).mp c26; omega; omega
      refine r_iconst (v := -1) dX8_still_49 (by decide) ?_
      exact r_iret dX8_still_50 ⟨_, rfl, hF, by rw [hR, ← eQ, show 61 - i = 0 by omega]; rfl⟩
    · skip
      have hi : i < 61 := by rcases Nat.lt_or_ge i 61 with q | q; exact q; exfalso; apply c26; rw [hv]; exact nI_lt (a := 60) (by omega) (by omega)
      obtain ⟨n2, en2⟩ : ∃ n2, 61 - i = n2 + 1 := ⟨61 - i - 1, by omega⟩
      refine r_aload_n dX8_still_29 rfl ?_
      refine r_aload_n dX8_still_30 rfl ?_
      refine r_getR flX8_46_8 rfl (hs1.lt (by decide)) (hs1.T 0 rfl) (hs1.R 0 7 rfl) dX8_still_31 ?_
      refine r_iconst (v := -1) dX8_still_34 (by decide) ?_
      refine r_cV2i cvX8_185 (kX8_monthWithout g M1 25 (Or.inr (Or.inr rfl)) hs1 σ w V1 (yq δ) (yd δ) lo1 ps1 D1 hlo1 (-1)) (hs1.lt (by decide)) (hs1.T 0 rfl) ⟨Nat.le_of_ble_eq_true rfl, Nat.le_of_ble_eq_true rfl⟩ (Nat.le_of_ble_eq_true rfl) ⟨Nat.le_of_ble_eq_true rfl, Nat.le_of_ble_eq_true rfl⟩ dX8_still_35 (fun r35 M35 h35 => ?_)
      obtain ⟨hF2, e2, e3⟩ := h35
      rw [pass_all w] at e2 e3
      have hF3 := hF.tr (hF2.mono (is' := cF 25) (ls' := []) (by intro a ha; simp at ha; rw [cF_in]; omega) (by simp))
      refine r_if_ne 43 dX8_still_38 (by decide) (fun c38 => ?_) (fun c38 => ?_)
      · skip
        refine r_iinc dX8_still_43 rfl rfl rfl ?_
        refine r_goto 23 dX8_still_46 (by decide) ?_
        exact r_lv (lvSc rfl (lvSc rfl lvS0)) (ih (i + 1) _ _ _ _ (by omega) (by omega) (nI_inc hv) hF3 e3 (lapF_0 hlo1) (by rw [show 61 - (i + 1) = n2 by omega, ← eQ, en2, stF_0 (fun q => c38 (e2.trans q))]))
      · skip
        refine r_iload_n dX8_still_41 rfl ?_
        exact r_iret dX8_still_42 ⟨_, rfl, hF3, by rw [hR, ← eQ, en2, stF_1 (e2.symm.trans c38)]; exact hv⟩
set_option maxHeartbeats 4000000 in
set_option maxRecDepth 100000 in
theorem kX8_still (g : Gx) (M : Mm) (σ : Ab) (δ : Dy) (K : CA σ δ M) : Ct g yX8_still cX8_still 2 (Option.some FieldType.int) rmX8_still [.ref (g.1 + 0)] M (pI fun r M' => Fr (cF 25) [] M M' ∧ r = stiR σ δ) := by
  obtain ⟨hs, w, dw, V, D, D2, D3, D4, D5, D6⟩ := id K
  refine Ct.of rfl (Nat.le_of_ble_eq_true rfl) (fun x => ?_)
  refine r_aload_n dX8_still_0 rfl ?_
  refine r_getI flX8_62_8 rfl (hs.lt (by decide)) (hs.T 0 rfl) dX8_still_1 ?_
  refine r_if_ne 10 dX8_still_4 (by decide) (fun c4 => ?_) (fun c4 => ?_)
  · skip
    rw [V.1, nI_zero w.1] at c4
    refine r_aload_n dX8_still_10 rfl ?_
    refine r_getR flX8_46_8 rfl (hs.lt (by decide)) (hs.T 0 rfl) (hs.R 0 7 rfl) dX8_still_11 ?_
    refine r_aload_n dX8_still_14 rfl ?_
    refine r_getR flX8_39_8 rfl (hs.lt (by decide)) (hs.T 0 rfl) (hs.R 0 5 rfl) dX8_still_15 ?_
    refine r_cV1v cvX8_188 (kX1_takeOver g M 25 11 (Or.inr (Or.inr rfl)) (Or.inl rfl) (by decide) hs D6) (hs.lt (by decide)) (hs.T 25 rfl) ⟨Nat.le_of_ble_eq_true rfl, Nat.le_of_ble_eq_true rfl⟩ (Nat.le_of_ble_eq_true rfl) ⟨Nat.le_of_ble_eq_true rfl, Nat.le_of_ble_eq_true rfl⟩ dX8_still_18 (fun M18 h18 => ?_)
    obtain ⟨hF, hcp, h6, h7⟩ := h18
    have CC2 := CC.copy w K.2.2.2.2 hcp h6 h7
    refine r_iconst (v := 0) dX8_still_21 (by decide) ?_
    refine r_istore_n dX8_still_22 (by decide) rfl ?_
    exact r_lv (lvSc rfl (lvSc rfl lvS0)) (lp_still g x M σ δ K (by rw [stiR, if_neg c4]) 62 0 0 _ (yl δ) (yp δ) (by omega) (by omega) rfl hF CC2.1 dw.1 rfl)
  · skip
    rw [V.1, nI_zero w.1] at c4
    refine r_bipush (v := -103) dX8_still_7 (by decide) ?_
    exact r_iret dX8_still_9 ⟨_, rfl, Fr.rf _ _ _, by rw [stiR, if_pos c4]⟩
