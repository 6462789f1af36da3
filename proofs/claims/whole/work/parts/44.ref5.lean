/-! the reference: spoons, counts, whom -/
theorem ixA {v : Int32} {q c n : Nat} (e : v = nI q) (h : 4 * q + c < n) (hn : n < 2 ^ 31) : ixOK ((4 : Int32) * v + nI c) (4 * q + c) n := by rw [e]; exact ix4 h hn
theorem ixB {v : Int32} {q n : Nat} (e : v = nI q) (h : 4 * q < n) (hn : n < 2 ^ 31) : ixOK ((4 : Int32) * v) (4 * q) n := by rw [e]; exact ix40 h hn
theorem RA.spoon {σ : Ab} {δ : Dy} {M M' : Mm} (h : RA σ δ M) (h8 : zS σ < 8) {t v : Int32} (ht : hs8 t) (h1 : 1 ≤ v) (h99 : v ≤ 99) (f : Fr [44, 50] [] M M') (e44 : ∀ k, k ≠ 10 → mI M' 44 k = mI M 44 k) (e10 : mI M' 44 10 = nI (zS σ + 1)) (e0 : mI M' 50 (4 * zS σ) = v) (e1 : mI M' 50 (4 * zS σ + 1) = t) (e2 : mI M' 50 (4 * zS σ + 2) = t) (e3 : mI M' 50 (4 * zS σ + 3) = -1) (ek : ∀ k, k < 4 * zS σ → mI M' 50 k = mI M 50 k) :
    RA (zN σ, zS σ + 1, zk σ, zp σ, zr σ, zf σ, va_up (zw σ) (zS σ) v, va_up (zo σ) (zS σ) t) (va_up (yp δ) (zS σ) t, va_up (ye δ) (zS σ) (-1), yl δ, yd δ, yq δ, yt δ, ym δ, yf δ) M' := by
  obtain ⟨hs, ⟨w1, w2, w3, w4⟩, ⟨d1, d2, d3, d4⟩, ⟨v1, v2, v3, v4⟩, r1, r2, r3, r4, r5, r6, r7⟩ := h
  refine ⟨hs.fr f, ⟨w1, h8, w3, fun s hs => ?_⟩, ⟨d1, fun s hs => ?_, d3, d4⟩, ⟨(e44 5 (by decide)).trans v1, e10, ?_, fun s hs => ?_⟩, fun s hs => ?_, ?_, ?_, ?_, ?_, ?_, ?_⟩
  · show 1 ≤ va_up (zw σ) (zS σ) v s ∧ va_up (zw σ) (zS σ) v s ≤ 99 ∧ hs8 (va_up (zo σ) (zS σ) t s)
    rw [va_up_if, va_up_if]
    split
    · exact ⟨h1, h99, ht⟩
    · next e => exact w4 s (by have : s < zS σ + 1 := hs; omega)
  · show hs8 (va_up (yp δ) (zS σ) t s)
    rw [va_up_if]
    split
    · exact ht
    · next e => exact d2 s (by have : s < zS σ + 1 := hs; omega)
  · show ∀ q, q < zN σ → _
    rw [f.2.1 47 (by decide)]; exact v3
  · show mI M' 50 (4 * s) = va_up (zw σ) (zS σ) v s ∧ mI M' 50 (4 * s + 1) = va_up (zo σ) (zS σ) t s
    rw [va_up_if, va_up_if]
    split
    · next e => rw [e]; exact ⟨e0, e1⟩
    · next e =>
      have : s < zS σ + 1 := hs
      rw [ek _ (by omega), ek _ (by omega)]; exact v4 s (by omega)
  · show mI M' 50 (4 * s + 2) = va_up (yp δ) (zS σ) t s ∧ mI M' 50 (4 * s + 3) = va_up (ye δ) (zS σ) (-1) s
    rw [va_up_if, va_up_if]
    split
    · next e => rw [e]; exact ⟨e2, e3⟩
    · next e =>
      have : s < zS σ + 1 := hs
      rw [ek _ (by omega), ek _ (by omega)]; exact r1 s (by omega)
  · rw [f.2.1 49 (by decide)]; exact r2
  · rw [e44 13 (by decide)]; exact r3
  · rw [e44 8 (by decide)]; exact r4
  · rw [f.2.1 48 (by decide)]; exact r5
  · rw [e44 11 (by decide)]; exact r6
  · rw [e44 12 (by decide)]; exact r7
def rmX9_spoon : Room := { frames := 2, cells := 0, slots := 0, locals := 45 }
set_option maxHeartbeats 4000000 in
set_option maxRecDepth 100000 in
theorem kX9_spoon (g : Gx) (M : Mm) (σ : Ab) (δ : Dy) (C : RA σ δ M) (h v : Int32) : Ct g yX9_spoon cX9_spoon 3 (Option.some FieldType.int) rmX9_spoon [.ref (g.1 + 44), .int h, .int v] M (pI fun r M' => Fr [44, 50] [] M M' ∧ r = spoR σ h v ∧ RA (spoS σ h v) (spoD σ δ h v) M' ∧ ∀ k, k ≠ 10 → mI M' 44 k = mI M 44 k) := by
  obtain ⟨hs, w, dw, V, r1, r2, r3, r4, r5, r6, r7⟩ := id C
  refine Ct.of rfl (Nat.le_of_ble_eq_true rfl) (fun x => ?_)
  refine r_iload_n dX9_spoon_0 rfl ?_
  refine r_cS1i csX9_116 (kX9_isHouse g M hs h) hs.pos ⟨Nat.le_of_ble_eq_true rfl, Nat.le_of_ble_eq_true rfl⟩ (Nat.le_of_ble_eq_true rfl) ⟨Nat.le_of_ble_eq_true rfl, Nat.le_of_ble_eq_true rfl⟩ dX9_spoon_1 (fun z1 M1 h1 => ?_)
  obtain ⟨e1, h1⟩ := h1
  replace e1 := e1.symm
  subst e1
  refine r_if_ne 10 dX9_spoon_4 (by decide) (fun c4 => ?_) (fun c4 => ?_)
  · skip
    refine r_iload_n dX9_spoon_10 rfl ?_
    refine r_i2l dX9_spoon_11 ?_
    refine r_lconst (v := 1) dX9_spoon_12 (by decide) ?_
    refine r_ldc2_w (v := 99) dX9_spoon_13 tw815 ?_
    refine r_cS3i csX9_70 (kX9_in g M v.toInt64 1 99) hs.pos ⟨Nat.le_of_ble_eq_true rfl, Nat.le_of_ble_eq_true rfl⟩ (Nat.le_of_ble_eq_true rfl) ⟨Nat.le_of_ble_eq_true rfl, Nat.le_of_ble_eq_true rfl⟩ dX9_spoon_16 (fun z16 M16 h16 => ?_)
    obtain ⟨e16, h16⟩ := h16
    replace e16 := e16.symm
    subst e16
    replace h16 := inI 1 99 h16
    refine r_if_ne 25 dX9_spoon_19 (by decide) (fun c19 => ?_) (fun c19 => ?_)
    · skip
      refine r_aload_n dX9_spoon_25 rfl ?_
      refine r_getI flX9_113_9 rfl (hs.lt (by decide)) (hs.T 44 rfl) dX9_spoon_26 ?_
      refine r_bipush (v := 8) dX9_spoon_29 (by decide) ?_
      refine r_icmp_ne 37 dX9_spoon_31 (by decide) (fun c31 => ?_) (fun c31 => ?_)
      · skip
        have h8 : zS σ < 8 := by
          have := w.2.1
          rcases Nat.lt_or_ge (zS σ) 8 with q | q
          · exact q
          · exact absurd (by rw [V.2.1, show zS σ = 8 by omega]; rfl) c31
        refine r_aload_n dX9_spoon_37 rfl ?_
        refine r_getR flX9_25_9 rfl (hs.lt (by decide)) (hs.T 44 rfl) (hs.R 44 15 rfl) dX9_spoon_38 ?_
        refine r_iconst (v := 4) dX9_spoon_41 (by decide) ?_
        refine r_aload_n dX9_spoon_42 rfl ?_
        refine r_getI flX9_113_9 rfl (hs.lt (by decide)) (hs.T 44 rfl) dX9_spoon_43 ?_
        refine r_imul dX9_spoon_46 ?_
        refine r_iload_n dX9_spoon_47 rfl ?_
        refine r_ias (hs.T 50 rfl) (hs.lt (by decide)) (ixB V.2.1 (by omega) (by decide)) dX9_spoon_48 ?_
        refine r_aload_n dX9_spoon_49 rfl ?_
        refine r_getR flX9_25_9 rfl (hs.lt (by decide)) (hs.T 44 rfl) (hs.R 44 15 rfl) dX9_spoon_50 ?_
        refine r_iconst (v := 4) dX9_spoon_53 (by decide) ?_
        refine r_aload_n dX9_spoon_54 rfl ?_
        refine r_getI flX9_113_9 rfl (hs.lt (by decide)) (hs.T 44 rfl) dX9_spoon_55 ?_
        refine r_imul dX9_spoon_58 ?_
        refine r_iconst (v := 1) dX9_spoon_59 (by decide) ?_
        refine r_iadd dX9_spoon_60 ?_
        refine r_iload_n dX9_spoon_61 rfl ?_
        refine r_ias (hs.T 50 rfl) (hs.lt (by decide)) (ixA (c := 1) V.2.1 (by omega) (by decide)) dX9_spoon_62 ?_
        refine r_aload_n dX9_spoon_63 rfl ?_
        refine r_getR flX9_25_9 rfl (hs.lt (by decide)) (hs.T 44 rfl) (hs.R 44 15 rfl) dX9_spoon_64 ?_
        refine r_iconst (v := 4) dX9_spoon_67 (by decide) ?_
        refine r_aload_n dX9_spoon_68 rfl ?_
        refine r_getI flX9_113_9 rfl (hs.lt (by decide)) (hs.T 44 rfl) dX9_spoon_69 ?_
        refine r_imul dX9_spoon_72 ?_
        refine r_iconst (v := 2) dX9_spoon_73 (by decide) ?_
        refine r_iadd dX9_spoon_74 ?_
        refine r_iload_n dX9_spoon_75 rfl ?_
        refine r_ias (hs.T 50 rfl) (hs.lt (by decide)) (ixA (c := 2) V.2.1 (by omega) (by decide)) dX9_spoon_76 ?_
        refine r_aload_n dX9_spoon_77 rfl ?_
        refine r_getR flX9_25_9 rfl (hs.lt (by decide)) (hs.T 44 rfl) (hs.R 44 15 rfl) dX9_spoon_78 ?_
        refine r_iconst (v := 4) dX9_spoon_81 (by decide) ?_
        refine r_aload_n dX9_spoon_82 rfl ?_
        refine r_getI flX9_113_9 rfl (hs.lt (by decide)) (hs.T 44 rfl) dX9_spoon_83 ?_
        refine r_imul dX9_spoon_86 ?_
        refine r_iconst (v := 3) dX9_spoon_87 (by decide) ?_
        refine r_iadd dX9_spoon_88 ?_
        refine r_iconst (v := -1) dX9_spoon_89 (by decide) ?_
        refine r_ias (hs.T 50 rfl) (hs.lt (by decide)) (ixA (c := 3) V.2.1 (by omega) (by decide)) dX9_spoon_90 ?_
        refine r_aload_n dX9_spoon_91 rfl ?_
        refine r_dup dX9_spoon_92 rfl ?_
        refine r_getI flX9_113_9 rfl (hs.lt (by decide)) (hs.T 44 rfl) dX9_spoon_93 ?_
        refine r_iconst (v := 1) dX9_spoon_96 (by decide) ?_
        refine r_iadd dX9_spoon_97 ?_
        refine r_putI fpX9_113_9 rfl (hs.lt (by decide)) (hs.T 44 rfl) rfl rfl dX9_spoon_98 ?_
        refine r_aload_n dX9_spoon_101 rfl ?_
        refine r_getI flX9_113_9 rfl (hs.lt (by decide)) (hs.T 44 rfl) dX9_spoon_102 ?_
        refine r_iconst (v := 1) dX9_spoon_105 (by decide) ?_
        refine r_isub dX9_spoon_106 ?_
        exact r_iret dX9_spoon_107 ⟨_, rfl, (((((Fr.rf _ _ _).sI (by simp)).sI (by simp)).sI (by simp)).sI (by simp)).sI (by simp), by
          rw [spoR, if_pos (one_of h1 c4), if_pos (one_of h16 c19), if_pos h8]
          show mI M 44 10 + 1 - 1 = _
          rw [V.2.1]; grind, by
          rw [spoS, if_pos ⟨one_of h1 c4, one_of h16 c19, h8⟩, spoD, if_pos ⟨one_of h1 c4, one_of h16 c19, h8⟩]
          refine C.spoon h8 (hs8_of (one_of h1 c4)) (one_of h16 c19).1 (one_of h16 c19).2 ((((((Fr.rf _ _ _).sI (by simp)).sI (by simp)).sI (by simp)).sI (by simp)).sI (by simp)) (fun k hk => ?_) ?_ ?_ ?_ ?_ ?_ (fun k hk => ?_)
          · rw [mI_sI, va_up_ne _ _ hk]; rfl
          · show mI M 44 10 + 1 = _
            rw [V.2.1]; exact nI_1 _
          · rw [mI_sI_ne (by decide)]; simp only [mI_sI, va_up_if]; rw [if_neg (by omega), if_neg (by omega), if_neg (by omega), if_pos trivial]
          · rw [mI_sI_ne (by decide)]; simp only [mI_sI, va_up_if]; rw [if_neg (by omega), if_neg (by omega), if_pos trivial]
          · rw [mI_sI_ne (by decide)]; simp only [mI_sI, va_up_if]; rw [if_neg (by omega), if_pos trivial]
          · rw [mI_sI_ne (by decide)]; simp only [mI_sI, va_up_if]; rw [if_pos trivial]
          · rw [mI_sI_ne (by decide)]; simp only [mI_sI, va_up_if]; rw [if_neg (by omega), if_neg (by omega), if_neg (by omega), if_neg (by omega)], fun k hk => by rw [mI_sI, va_up_ne _ _ hk]; rfl⟩
      · skip
        have h8 : ¬ zS σ < 8 := fun q => by
          rw [V.2.1] at c31
          have := (nI_eq (a := zS σ) (b := 8) (by omega) (by decide)).mp c31
          omega
        refine r_bipush (v := -104) dX9_spoon_34 (by decide) ?_
        exact r_iret dX9_spoon_36 ⟨_, rfl, Fr.rf _ _ _, by rw [spoR, if_pos (one_of h1 c4), if_pos (one_of h16 c19), if_neg h8], by rw [spoS, if_neg (fun q => h8 q.2.2), spoD, if_neg (fun q => h8 q.2.2)]; exact C, fun _ _ => rfl⟩
    · skip
      refine r_bipush (v := -102) dX9_spoon_22 (by decide) ?_
      exact r_iret dX9_spoon_24 ⟨_, rfl, Fr.rf _ _ _, by rw [spoR, if_pos (one_of h1 c4), if_neg (zero_of h16 c19)], by rw [spoS, if_neg (fun q => zero_of h16 c19 q.2.1), spoD, if_neg (fun q => zero_of h16 c19 q.2.1)]; exact C, fun _ _ => rfl⟩
  · skip
    refine r_bipush (v := -101) dX9_spoon_7 (by decide) ?_
    exact r_iret dX9_spoon_9 ⟨_, rfl, Fr.rf _ _ _, by rw [spoR, if_neg (zero_of h1 c4)], by rw [spoS, if_neg (fun q => zero_of h1 c4 q.1), spoD, if_neg (fun q => zero_of h1 c4 q.1)]; exact C, fun _ _ => rfl⟩
def rmX9_countOf : Room := { frames := 0, cells := 0, slots := 0, locals := 0 }
set_option maxHeartbeats 4000000 in
set_option maxRecDepth 100000 in
theorem lp_rcount (g : Gx) (x : Cx) (M : Mm) (σ : Ab) (δ : Dy) (C : RA σ δ M) (q : Int32) : ∀ (n : Nat) (i : Nat) (v b : Int32), i ≤ zS σ → zS σ - i < n → v = nI i → b = sumF (fun s => if yp δ s = zo σ s then (0 : Int32) else 1) i → Vj x g yX9_countOf cX9_countOf 4 (Option.some FieldType.int) rmX9_countOf (Qm x g rmX9_countOf.cells rmX9_countOf.slots (pI fun r M' => M' = M ∧ r = cntR σ δ (mI M 44 1) (mI M 44 6) q)) 0 0 M 4 [(0, some (.ref (g.1 + 44))), (1, some (.int q)), (2, some (.int b)), (3, some (.int v))] [] := by
  intro n
  induction n with
  | zero => intro i v b hiS hn hv hb; omega
  | succ n ih =>
    intro i v b hiS hn hv hb
    obtain ⟨hs, w, dw, V, r1, r2, r3, r4, r5, r6, r7⟩ := id C
    subst hv
    have hv : nI i = nI i := rfl
    refine r_iload_n dX9_countOf_4 rfl ?_
    refine r_aload_n dX9_countOf_5 rfl ?_
    refine r_getI flX9_113_9 rfl (hs.lt (by decide)) (hs.T 44 rfl) dX9_countOf_6 ?_
    refine r_icmp_ge 49 dX9_countOf_9 (by decide) (fun c9 => ?_) (fun c9 => ?_)
    · skip
      have e0 := lp_ge (n := zS σ) hv V.2.1 c9 hiS (by have := w.2.1; omega)
      subst e0
      refine r_iload_n dX9_countOf_49 rfl ?_
      by_cases w0 : q = 0
      · skip
        subst w0
        refine r_tableIn 92 (off := 42) dX9_countOf_50 (by decide) (by decide) (by decide) (by decide) ?_
        refine r_aload_n dX9_countOf_92 rfl ?_
        refine r_getI flX9_91_9 rfl (hs.lt (by decide)) (hs.T 44 rfl) dX9_countOf_93 ?_
        exact r_iret dX9_countOf_96 ⟨_, rfl, rfl, V.1⟩
      · skip
        by_cases w1 : q = 1
        · skip
          subst w1
          refine r_tableIn 97 (off := 47) dX9_countOf_50 (by decide) (by decide) (by decide) (by decide) ?_
          refine r_aload_n dX9_countOf_97 rfl ?_
          refine r_getI flX9_113_9 rfl (hs.lt (by decide)) (hs.T 44 rfl) dX9_countOf_98 ?_
          exact r_iret dX9_countOf_101 ⟨_, rfl, rfl, V.2.1⟩
        · skip
          by_cases w2 : q = 2
          · skip
            subst w2
            refine r_tableIn 102 (off := 52) dX9_countOf_50 (by decide) (by decide) (by decide) (by decide) ?_
            refine r_aload_n dX9_countOf_102 rfl ?_
            refine r_getI flX9_157_9 rfl (hs.lt (by decide)) (hs.T 44 rfl) dX9_countOf_103 ?_
            exact r_iret dX9_countOf_106 ⟨_, rfl, rfl, r6⟩
          · skip
            by_cases w3 : q = 3
            · skip
              subst w3
              refine r_tableIn 107 (off := 57) dX9_countOf_50 (by decide) (by decide) (by decide) (by decide) ?_
              refine r_aload_n dX9_countOf_107 rfl ?_
              refine r_getI flX9_160_9 rfl (hs.lt (by decide)) (hs.T 44 rfl) dX9_countOf_108 ?_
              exact r_iret dX9_countOf_111 ⟨_, rfl, rfl, r7⟩
            · skip
              by_cases w4 : q = 4
              · skip
                subst w4
                refine r_tableIn 112 (off := 62) dX9_countOf_50 (by decide) (by decide) (by decide) (by decide) ?_
                refine r_aload_n dX9_countOf_112 rfl ?_
                refine r_getI flX9_59_9 rfl (hs.lt (by decide)) (hs.T 44 rfl) dX9_countOf_113 ?_
                exact r_iret dX9_countOf_116 ⟨_, rfl, rfl, rfl⟩
              · skip
                by_cases w5 : q = 5
                · skip
                  subst w5
                  refine r_tableIn 117 (off := 67) dX9_countOf_50 (by decide) (by decide) (by decide) (by decide) ?_
                  refine r_iload_n dX9_countOf_117 rfl ?_
                  exact r_iret dX9_countOf_118 ⟨_, rfl, rfl, hb⟩
                · skip
                  by_cases w6 : q = 6
                  · skip
                    subst w6
                    refine r_tableIn 119 (off := 69) dX9_countOf_50 (by decide) (by decide) (by decide) (by decide) ?_
                    refine r_aload_n dX9_countOf_119 rfl ?_
                    refine r_getI flX9_97_9 rfl (hs.lt (by decide)) (hs.T 44 rfl) dX9_countOf_120 ?_
                    exact r_iret dX9_countOf_123 ⟨_, rfl, rfl, rfl⟩
                  · skip
                    refine r_tableOut 124 dX9_countOf_50 (by have q0 := lv_neT w0 (a := 0) (by decide); have q1 := lv_neT w1 (a := 1) (by decide); have q2 := lv_neT w2 (a := 2) (by decide); have q3 := lv_neT w3 (a := 3) (by decide); have q4 := lv_neT w4 (a := 4) (by decide); have q5 := lv_neT w5 (a := 5) (by decide); have q6 := lv_neT w6 (a := 6) (by decide); omega) (by decide) ?_
                    refine r_bipush (v := -102) dX9_countOf_124 (by decide) ?_
                    exact r_iret dX9_countOf_126 ⟨_, rfl, rfl, by rw [cntR, if_neg w0, if_neg w1, if_neg w2, if_neg w3, if_neg w4, if_neg w5, if_neg w6]⟩
    · skip
      have hi : i < zS σ := lp_lt (n := zS σ) hv V.2.1 c9 hiS (by have := w.2.1; omega)
      have hi8 : i < 8 := Nat.lt_of_lt_of_le hi w.2.1
      refine r_iload_n dX9_countOf_12 rfl ?_
      refine r_dia (P := fun u => u = (fun s => if yp δ s = zo σ s then (0 : Int32) else 1) i) 41 (fun u hu => ?_) (fun hJ41 => ?_)
      · skip
        refine r_iadd dX9_countOf_41 ?_
        refine r_istore_n dX9_countOf_42 (by decide) rfl ?_
        refine r_iinc dX9_countOf_43 rfl rfl rfl ?_
        refine r_goto 4 dX9_countOf_46 (by decide) ?_
        exact r_lv (lvSc rfl (lvSc rfl (lvSc rfl (lvSc rfl lvS0)))) (ih (i + 1) _ _ (by omega) (by omega) (nI_inc rfl) (by rw [sumF, hb, hu]))
      · skip
        refine r_aload_n dX9_countOf_13 rfl ?_
        refine r_getR flX9_25_9 rfl (hs.lt (by decide)) (hs.T 44 rfl) (hs.R 44 15 rfl) dX9_countOf_14 ?_
        refine r_iconst (v := 4) dX9_countOf_17 (by decide) ?_
        refine r_iload_n dX9_countOf_18 rfl ?_
        refine r_imul dX9_countOf_19 ?_
        refine r_iconst (v := 1) dX9_countOf_20 (by decide) ?_
        refine r_iadd dX9_countOf_21 ?_
        refine r_ial (hs.T 50 rfl) (hs.lt (by decide)) (ix4 (c := 1) (by omega) (by decide)) dX9_countOf_22 ?_
        refine r_aload_n dX9_countOf_23 rfl ?_
        refine r_getR flX9_25_9 rfl (hs.lt (by decide)) (hs.T 44 rfl) (hs.R 44 15 rfl) dX9_countOf_24 ?_
        refine r_iconst (v := 4) dX9_countOf_27 (by decide) ?_
        refine r_iload_n dX9_countOf_28 rfl ?_
        refine r_imul dX9_countOf_29 ?_
        refine r_iconst (v := 2) dX9_countOf_30 (by decide) ?_
        refine r_iadd dX9_countOf_31 ?_
        refine r_ial (hs.T 50 rfl) (hs.lt (by decide)) (ix4 (c := 2) (by omega) (by decide)) dX9_countOf_32 ?_
        refine r_icmp_ne 40 dX9_countOf_33 (by decide) (fun c33 => ?_) (fun c33 => ?_)
        · skip
          rw [show mI M 50 (4 * i + 1) = _ from (V.2.2.2 i hi).2, show mI M 50 (4 * i + 2) = _ from (r1 i hi).1] at c33
          have hfin : (1 : Int32) = (fun s => if yp δ s = zo σ s then (0 : Int32) else 1) i := by
            show _ = ite _ _ _
            rw [if_neg (fun z => c33 z.symm)]
          refine r_iconst (v := 1) dX9_countOf_40 (by decide) ?_
          exact hJ41 _ hfin
        · skip
          rw [show mI M 50 (4 * i + 1) = _ from (V.2.2.2 i hi).2, show mI M 50 (4 * i + 2) = _ from (r1 i hi).1] at c33
          have hfin : (0 : Int32) = (fun s => if yp δ s = zo σ s then (0 : Int32) else 1) i := by
            show _ = ite _ _ _
            rw [if_pos c33.symm]
          refine r_iconst (v := 0) dX9_countOf_36 (by decide) ?_
          refine r_goto 41 dX9_countOf_37 (by decide) ?_
          exact hJ41 _ hfin
set_option maxHeartbeats 4000000 in
set_option maxRecDepth 100000 in
theorem kX9_countOf (g : Gx) (M : Mm) (σ : Ab) (δ : Dy) (C : RA σ δ M) (q : Int32) : Ct g yX9_countOf cX9_countOf 4 (Option.some FieldType.int) rmX9_countOf [.ref (g.1 + 44), .int q] M (pI fun r M' => M' = M ∧ r = cntR σ δ (mI M 44 1) (mI M 44 6) q) := by
  refine Ct.of rfl (Nat.le_of_ble_eq_true rfl) (fun x => ?_)
  refine r_iconst (v := 0) dX9_countOf_0 (by decide) ?_
  refine r_istore_n dX9_countOf_1 (by decide) rfl ?_
  refine r_iconst (v := 0) dX9_countOf_2 (by decide) ?_
  refine r_istore_n dX9_countOf_3 (by decide) rfl ?_
  exact r_lv (lvSc rfl (lvSc rfl (lvSc rfl (lvSc rfl lvS0)))) (lp_rcount g x M σ δ C q (zS σ + 1) 0 0 0 (by omega) (by omega) rfl rfl)
def rmX9_count : Room := { frames := 1, cells := 0, slots := 0, locals := 23 }
set_option maxHeartbeats 4000000 in
set_option maxRecDepth 100000 in
theorem kX9_count (g : Gx) (M : Mm) (σ : Ab) (δ : Dy) (C : RA σ δ M) (q : Int32) : Ct g yX9_count cX9_count 2 (Option.some FieldType.int) rmX9_count [.ref (g.1 + 44), .int q] M (pI fun r M' => M' = M ∧ r = cntR σ δ (mI M 44 1) (mI M 44 6) q) := by
  refine Ct.of rfl (Nat.le_of_ble_eq_true rfl) (fun x => ?_)
  refine r_aload_n dX9_count_0 rfl ?_
  refine r_iload_n dX9_count_1 rfl ?_
  refine r_cV1i cvX9_243 (kX9_countOf g M σ δ C q) (C.1.lt (by decide)) (C.1.T 44 rfl) ⟨Nat.le_of_ble_eq_true rfl, Nat.le_of_ble_eq_true rfl⟩ (Nat.le_of_ble_eq_true rfl) ⟨Nat.le_of_ble_eq_true rfl, Nat.le_of_ble_eq_true rfl⟩ dX9_count_2 (fun z2 M2 h2 => ?_)
  obtain ⟨e2, h2⟩ := h2
  replace e2 := e2.symm
  subst e2
  exact r_iret dX9_count_5 ⟨_, rfl, rfl, h2⟩
def rmX9_ones : Room := { frames := 0, cells := 0, slots := 0, locals := 0 }
theorem ones8 : ∀ k, k < 256 → sumF (fun j => bitI (nI k) j) 8 = nI (popN k) := by decide +kernel
set_option maxHeartbeats 4000000 in
set_option maxRecDepth 100000 in
theorem lp_rones (g : Gx) (x : Cx) (M : Mm) (k : Nat) (hk : k < 256) : ∀ (n : Nat) (i : Nat) (v b : Int32), i ≤ 8 → 8 - i < n → v = nI i → b = sumF (fun j => bitI (nI k) j) i → Vj x g yX9_ones cX9_ones 3 (Option.some FieldType.int) rmX9_ones (Qm x g rmX9_ones.cells rmX9_ones.slots (pI fun r M' => M' = M ∧ r = nI (popN k))) 0 0 M 4 [(0, some (.int (nI k))), (1, some (.int b)), (2, some (.int v))] [] := by
  intro n
  induction n with
  | zero => intro i v b hi8 hn hv hb; omega
  | succ n ih =>
    intro i v b hi8 hn hv hb
    subst hv
    have hv : nI i = nI i := rfl
    refine r_iload_n dX9_ones_4 rfl ?_
    refine r_bipush (v := 8) dX9_ones_5 (by decide) ?_
    refine r_icmp_ge 24 dX9_ones_7 (by decide) (fun c7 => ?_) (fun c7 => ?_)
    · skip
      have ez := lp_ge (n := 8) hv rfl c7 hi8 (by decide)
      subst ez
      refine r_iload_n dX9_ones_24 rfl ?_
      exact r_iret dX9_ones_25 ⟨_, rfl, rfl, hb.trans (ones8 k hk)⟩
    · skip
      have hi : i < 8 := lp_lt (n := 8) hv rfl c7 hi8 (by decide)
      refine r_iload_n dX9_ones_10 rfl ?_
      refine r_iload_n dX9_ones_11 rfl ?_
      refine r_iload_n dX9_ones_12 rfl ?_
      refine r_ishr dX9_ones_13 ?_
      refine r_iconst (v := 1) dX9_ones_14 (by decide) ?_
      refine r_iand dX9_ones_15 ?_
      refine r_iadd dX9_ones_16 ?_
      refine r_istore_n dX9_ones_17 (by decide) rfl ?_
      refine r_iinc dX9_ones_18 rfl rfl rfl ?_
      refine r_goto 4 dX9_ones_21 (by decide) ?_
      exact r_lv (lvSc rfl (lvSc rfl (lvSc rfl lvS0))) (ih (i + 1) _ _ (by omega) (by omega) (nI_inc rfl) (by rw [sumF, hb]; rfl))
set_option maxHeartbeats 4000000 in
set_option maxRecDepth 100000 in
theorem kX9_ones (g : Gx) (M : Mm) (k : Nat) (hk : k < 256) : Ct g yX9_ones cX9_ones 3 (Option.some FieldType.int) rmX9_ones [.int (nI k)] M (pI fun r M' => M' = M ∧ r = nI (popN k)) := by
  refine Ct.of rfl (Nat.le_of_ble_eq_true rfl) (fun x => ?_)
  refine r_iconst (v := 0) dX9_ones_0 (by decide) ?_
  refine r_istore_n dX9_ones_1 (by decide) rfl ?_
  refine r_iconst (v := 0) dX9_ones_2 (by decide) ?_
  refine r_istore_n dX9_ones_3 (by decide) rfl ?_
  exact r_lv (lvSc rfl (lvSc rfl (lvSc rfl lvS0))) (lp_rones g x M k hk 9 0 0 0 (by omega) (by omega) rfl rfl)
