/-! the reference: its reader -/
theorem kd_0 {c : Int32} (h : kdC c = 0) : ¬ c = 115 ∧ ¬ c = 98 ∧ ¬ c = 104 ∧ ¬ c = 109 := by
  unfold kdC at h
  refine ⟨fun e => ?_, fun e => ?_, fun e => ?_, fun e => ?_⟩ <;> subst e <;> revert h <;> decide
def kdR (c : Int32) : Int32 := if kdC c = 0 then -1 else nI (kdC c)
theorem psT_0 {c : Int32} {n : Nat} {rw' : Rw} (k : kdC c = 0) : psT c (0, n, rw') = if 0 ≤ c - 48 ∧ c - 48 < 8 then some (2, n, va_up (va_up rw' (4 * n) 0) (4 * n + 1) (c - 48)) else none := by
  unfold psT; simp [k]
theorem psT_k {c : Int32} {n : Nat} {rw' : Rw} (k : ¬ kdC c = 0) : psT c (0, n, rw') = some (1, n, va_up rw' (4 * n) (nI (kdC c))) := by
  unfold psT; simp [k]
theorem psT_1 {c : Int32} {n : Nat} {rw' : Rw} : psT c (1, n, rw') = if 0 ≤ c - 48 ∧ c - 48 < 8 then some (2, n, va_up rw' (4 * n + 1) (c - 48)) else none := rfl
theorem psT_2 {c : Int32} {n : Nat} {rw' : Rw} : psT c (2, n, rw') = if (0 ≤ c - 48 ∧ c - 48 < 8) ∧ ¬ c - 48 = rw' (4 * n + 1) then some (3, n, va_up rw' (4 * n + 2) (c - 48)) else none := rfl
theorem psT_3 {c : Int32} {n : Nat} {rw' : Rw} : psT c (3, n, rw') = if 0 ≤ c - 48 ∧ c - 48 ≤ 9 then some (4, n + 1, va_up rw' (4 * n + 3) (c - 48)) else none := rfl
theorem psT_4 {c : Int32} {n : Nat} {rw' : Rw} : psT c (4, n, rw') = if c = 44 ∧ n < 8 then some (0, n, rw') else none := rfl
theorem h07 {v : Int32} : (0 ≤ v ∧ v ≤ 7) ↔ (0 ≤ v ∧ v < 8) := by constructor <;> intro q <;> constructor <;> grind
def gdP (M M' : Mm) (c r : Int32) (q : Ps) : Prop := Fr [44, 46] [] M M' ∧ (∀ k, k ≠ 3 → k ≠ 4 → mI M' 44 k = mI M 44 k) ∧ ((r = 1 ∧ ∃ q', psT c q = some q' ∧ PRr M' q') ∨ (r = 0 ∧ psT c q = none))
theorem gdF {M : Mm} {a b : Nat} {p v w z : Int32} : Fr [44, 46] [] M (sI (sI (sI (sI M 46 a p) 46 b v) 44 3 w) 44 4 z) := ((((Fr.rf _ _ _).sI (by simp)).sI (by simp)).sI (by simp)).sI (by simp)
theorem gdK {M : Mm} {a b k : Nat} {p v w z : Int32} (h3 : k ≠ 3) (h4 : k ≠ 4) : mI (sI (sI (sI (sI M 46 a p) 46 b v) 44 3 w) 44 4 z) 44 k = mI M 44 k := by
  rw [mI_sI, va_up_ne _ _ h4, mI_sI, va_up_ne _ _ h3, mI_sI_ne (by decide), mI_sI_ne (by decide)]
theorem gdQ {M : Mm} {a b st n : Nat} {p v w z : Int32} {f : Rw} (hz : z = nI st) (hw : w = nI n) (h : ∀ j, j < limP (st, n, f) → va_up (va_up (mI M 46) a p) b v j = f j) : PRr (sI (sI (sI (sI M 46 a p) 46 b v) 44 3 w) 44 4 z) (st, n, f) := by
  refine ⟨by rw [mI_sI, va_up_self]; exact hz, by rw [mI_sI, va_up_ne _ _ (by decide), mI_sI, va_up_self]; exact hw, fun j hj => ?_⟩
  rw [mI_sI_ne (by decide), mI_sI_ne (by decide), mI_sI, mI_sI]
  exact h j hj
def rmX9_kindOf : Room := { frames := 0, cells := 0, slots := 0, locals := 0 }
set_option maxHeartbeats 4000000 in
set_option maxRecDepth 100000 in
theorem kX9_kindOf (g : Gx) (M : Mm) (c : Int32) : Ct g yX9_kindOf cX9_kindOf 1 (Option.some FieldType.int) rmX9_kindOf [.int c] M (pI fun r M' => M' = M ∧ r = kdR c) := by
  refine Ct.of rfl (Nat.le_of_ble_eq_true rfl) (fun x => ?_)
  refine r_iload_n dX9_kindOf_0 rfl ?_
  refine r_bipush (v := 115) dX9_kindOf_1 (by decide) ?_
  refine r_icmp_ne 10 dX9_kindOf_3 (by decide) (fun c3 => ?_) (fun c3 => ?_)
  · skip
    refine r_iload_n dX9_kindOf_10 rfl ?_
    refine r_bipush (v := 98) dX9_kindOf_11 (by decide) ?_
    refine r_icmp_ne 20 dX9_kindOf_13 (by decide) (fun c13 => ?_) (fun c13 => ?_)
    · skip
      refine r_iload_n dX9_kindOf_20 rfl ?_
      refine r_bipush (v := 104) dX9_kindOf_21 (by decide) ?_
      refine r_icmp_ne 30 dX9_kindOf_23 (by decide) (fun c23 => ?_) (fun c23 => ?_)
      · skip
        refine r_iload_n dX9_kindOf_30 rfl ?_
        refine r_bipush (v := 109) dX9_kindOf_31 (by decide) ?_
        refine r_icmp_ne 40 dX9_kindOf_33 (by decide) (fun c33 => ?_) (fun c33 => ?_)
        · skip
          refine r_iconst (v := -1) dX9_kindOf_40 (by decide) ?_
          exact r_iret dX9_kindOf_41 ⟨_, rfl, rfl, by unfold kdR kdC; simp [c3, c13, c23, c33]⟩
        · skip
          refine r_iconst (v := 4) dX9_kindOf_36 (by decide) ?_
          refine r_goto 41 dX9_kindOf_37 (by decide) ?_
          exact r_iret dX9_kindOf_41 ⟨_, rfl, rfl, by subst c33; decide⟩
      · skip
        refine r_iconst (v := 3) dX9_kindOf_26 (by decide) ?_
        refine r_goto 41 dX9_kindOf_27 (by decide) ?_
        exact r_iret dX9_kindOf_41 ⟨_, rfl, rfl, by subst c23; decide⟩
    · skip
      refine r_iconst (v := 2) dX9_kindOf_16 (by decide) ?_
      refine r_goto 41 dX9_kindOf_17 (by decide) ?_
      exact r_iret dX9_kindOf_41 ⟨_, rfl, rfl, by subst c13; decide⟩
  · skip
    refine r_iconst (v := 1) dX9_kindOf_6 (by decide) ?_
    refine r_goto 41 dX9_kindOf_7 (by decide) ?_
    exact r_iret dX9_kindOf_41 ⟨_, rfl, rfl, by subst c3; decide⟩
def rmX9_goDigit : Room := { frames := 1, cells := 0, slots := 0, locals := 25 }
set_option maxHeartbeats 4000000 in
set_option maxRecDepth 100000 in
theorem kX9_goDigit0 (g : Gx) (M : Mm) (hs : St M) (c : Int32) (n : Nat) (hn : n < 8) (rw' : Rw) (H : PRr M (0, n, rw')) (hk : kdC c = 0) : Ct g yX9_goDigit cX9_goDigit 5 (Option.some FieldType.boolean) rmX9_goDigit [.ref (g.1 + 44), .int (c - 48)] M (pI fun r M' => gdP M M' c r (0, n, rw')) := by
  obtain ⟨h1, h2, h3⟩ := H
  have h1 : mI M 44 4 = nI 0 := h1
  have h2 : mI M 44 3 = nI n := h2
  refine Ct.of rfl (Nat.le_of_ble_eq_true rfl) (fun x => ?_)
  refine r_iconst (v := 4) dX9_goDigit_0 (by decide) ?_
  refine r_aload_n dX9_goDigit_1 rfl ?_
  refine r_getI flX9_62_9 rfl (hs.lt (by decide)) (hs.T 44 rfl) dX9_goDigit_2 ?_
  refine r_imul dX9_goDigit_5 ?_
  refine r_istore_n dX9_goDigit_6 (by decide) rfl ?_
  refine r_aload_n dX9_goDigit_7 rfl ?_
  refine r_getI flX9_65_9 rfl (hs.lt (by decide)) (hs.T 44 rfl) dX9_goDigit_8 ?_
  refine r_if_ne 18 dX9_goDigit_11 (by decide) (fun c11 => ?_) (fun c11 => ?_)
  · skip
    exact absurd (by rw [h1]; rfl) c11
  · skip
    refine r_iconst (v := 1) dX9_goDigit_14 (by decide) ?_
    refine r_goto 22 dX9_goDigit_15 (by decide) ?_
    refine r_istore_n dX9_goDigit_22 (by decide) rfl ?_
    refine r_dia (P := fun u => (u = 1 ∧ (0 ≤ c - 48 ∧ c - 48 < 8)) ∨ (u = 0 ∧ ¬ (0 ≤ c - 48 ∧ c - 48 < 8))) 74 (fun u hu => ?_) (fun hJ74 => ?_)
    · skip
      refine r_istore dX9_goDigit_74 (by decide) rfl ?_
      refine r_aload_n dX9_goDigit_76 rfl ?_
      refine r_getR flX9_13_9 rfl (hs.lt (by decide)) (hs.T 44 rfl) (hs.R 44 2 rfl) dX9_goDigit_77 ?_
      refine r_iload_n dX9_goDigit_80 rfl ?_
      refine r_aload_n dX9_goDigit_81 rfl ?_
      refine r_getI flX9_65_9 rfl (hs.lt (by decide)) (hs.T 44 rfl) dX9_goDigit_82 ?_
      refine r_if_ne 92 dX9_goDigit_85 (by decide) (fun c85 => ?_) (fun c85 => ?_)
      · skip
        exact absurd (by rw [h1]; rfl) c85
      · skip
        refine r_iconst (v := 0) dX9_goDigit_88 (by decide) ?_
        refine r_goto 98 dX9_goDigit_89 (by decide) ?_
        refine r_ias (hs.T 46 rfl) (hs.lt (by decide)) (ixB h2 (by omega) (by decide)) dX9_goDigit_98 ?_
        refine r_aload_n dX9_goDigit_99 rfl ?_
        refine r_getR flX9_13_9 rfl (hs.lt (by decide)) (hs.T 44 rfl) (hs.R 44 2 rfl) dX9_goDigit_100 ?_
        refine r_iload_n dX9_goDigit_103 rfl ?_
        refine r_iload_n dX9_goDigit_104 rfl ?_
        refine r_iadd dX9_goDigit_105 ?_
        refine r_iload_n dX9_goDigit_106 rfl ?_
        refine r_ias (hs.T 46 rfl) (hs.lt (by decide)) (ixA (c := 1) h2 (by omega) (by decide)) dX9_goDigit_107 ?_
        refine r_aload_n dX9_goDigit_108 rfl ?_
        refine r_dup dX9_goDigit_109 rfl ?_
        refine r_getI flX9_62_9 rfl (hs.lt (by decide)) (hs.T 44 rfl) dX9_goDigit_110 ?_
        refine r_iload_n dX9_goDigit_113 rfl ?_
        refine r_iconst (v := 3) dX9_goDigit_114 (by decide) ?_
        refine r_icmp_ne 122 dX9_goDigit_115 (by decide) (fun c115 => ?_) (fun c115 => ?_)
        · skip
          refine r_iconst (v := 0) dX9_goDigit_122 (by decide) ?_
          refine r_iadd dX9_goDigit_123 ?_
          refine r_putI fpX9_62_9 rfl (hs.lt (by decide)) (hs.T 44 rfl) rfl rfl dX9_goDigit_124 ?_
          refine r_aload_n dX9_goDigit_127 rfl ?_
          refine r_iload_n dX9_goDigit_128 rfl ?_
          refine r_iconst (v := 1) dX9_goDigit_129 (by decide) ?_
          refine r_iadd dX9_goDigit_130 ?_
          refine r_putI fpX9_65_9 rfl (hs.lt (by decide)) (hs.T 44 rfl) rfl rfl dX9_goDigit_131 ?_
          refine r_iload dX9_goDigit_134 rfl ?_
          exact r_zret (nar_bool (hu.elim (fun z => Or.inr z.1) (fun z => Or.inl z.1))) dX9_goDigit_136 ⟨_, rfl, gdF, fun k k3 k4 => gdK k3 k4, by
              rcases hu with ⟨e, q⟩ | ⟨e, q⟩
              · refine Or.inl ⟨e, (2, n, va_up (va_up rw' (4 * n) 0) (4 * n + 1) (c - 48)), by rw [psT_0 hk, if_pos q], gdQ (by rfl) (by show mI M 44 3 + 0 = _; rw [h2]; exact Int32.add_zero _) (fun j hj => by
                have hj : j < 4 * n + 2 := hj
                rw [va_up_if]
                rw [va_up_if (va_up rw' (4 * n) 0)]
                by_cases e : j = 4 * n + 1
                · rw [if_pos e, if_pos e]
                · rw [if_neg e, if_neg e, va_up_if]
                  by_cases e2 : j = 4 * n
                  · rw [if_pos e2, va_up_if, if_pos e2]
                  · rw [if_neg e2, va_up_if, if_neg e2]; exact h3 j (by show j < 4 * n + 0; omega))⟩
              · exact Or.inr ⟨e, by rw [psT_0 hk, if_neg q]⟩⟩
        · skip
          exact absurd c115 (by decide)
    · skip
      refine r_iload_n dX9_goDigit_23 rfl ?_
      refine r_iconst (v := 3) dX9_goDigit_24 (by decide) ?_
      refine r_icmp_ne 40 dX9_goDigit_25 (by decide) (fun c25 => ?_) (fun c25 => ?_)
      · skip
        refine r_iload_n dX9_goDigit_40 rfl ?_
        refine r_i2l dX9_goDigit_41 ?_
        refine r_lconst (v := 0) dX9_goDigit_42 (by decide) ?_
        refine r_ldc2_w (v := 7) dX9_goDigit_43 tw768 ?_
        refine r_cS3i csX9_70 (kX9_in g M (c - 48).toInt64 0 7) hs.pos ⟨Nat.le_of_ble_eq_true rfl, Nat.le_of_ble_eq_true rfl⟩ (Nat.le_of_ble_eq_true rfl) ⟨Nat.le_of_ble_eq_true rfl, Nat.le_of_ble_eq_true rfl⟩ dX9_goDigit_46 (fun z46 M46 h46 => ?_)
        obtain ⟨e46, h46⟩ := h46
        replace e46 := e46.symm
        subst e46
        replace h46 := inI 0 7 h46
        rw [ite_iff h07] at h46
        refine r_if_eq 73 dX9_goDigit_49 (by decide) (fun c49 => ?_) (fun c49 => ?_)
        · skip
          have hfin : ((0 : Int32) = 1 ∧ (0 ≤ c - 48 ∧ c - 48 < 8)) ∨ ((0 : Int32) = 0 ∧ ¬ (0 ≤ c - 48 ∧ c - 48 < 8)) := Or.inr ⟨rfl, zero_of h46 c49⟩
          refine r_iconst (v := 0) dX9_goDigit_73 (by decide) ?_
          exact hJ74 _ hfin
        · skip
          refine r_iload_n dX9_goDigit_52 rfl ?_
          refine r_iconst (v := 1) dX9_goDigit_53 (by decide) ?_
          refine r_icmp_eq 69 dX9_goDigit_54 (by decide) (fun c54 => ?_) (fun c54 => ?_)
          · skip
            have hfin : ((1 : Int32) = 1 ∧ (0 ≤ c - 48 ∧ c - 48 < 8)) ∨ ((1 : Int32) = 0 ∧ ¬ (0 ≤ c - 48 ∧ c - 48 < 8)) := Or.inl ⟨rfl, one_of h46 c49⟩
            refine r_iconst (v := 1) dX9_goDigit_69 (by decide) ?_
            refine r_goto 74 dX9_goDigit_70 (by decide) ?_
            exact hJ74 _ hfin
          · skip
            exact absurd rfl c54
      · skip
        exact absurd c25 (by decide)
set_option maxHeartbeats 4000000 in
set_option maxRecDepth 100000 in
theorem kX9_goDigit1 (g : Gx) (M : Mm) (hs : St M) (c : Int32) (n : Nat) (hn : n < 8) (rw' : Rw) (H : PRr M (1, n, rw')) : Ct g yX9_goDigit cX9_goDigit 5 (Option.some FieldType.boolean) rmX9_goDigit [.ref (g.1 + 44), .int (c - 48)] M (pI fun r M' => gdP M M' c r (1, n, rw')) := by
  obtain ⟨h1, h2, h3⟩ := H
  have h1 : mI M 44 4 = nI 1 := h1
  have h2 : mI M 44 3 = nI n := h2
  refine Ct.of rfl (Nat.le_of_ble_eq_true rfl) (fun x => ?_)
  refine r_iconst (v := 4) dX9_goDigit_0 (by decide) ?_
  refine r_aload_n dX9_goDigit_1 rfl ?_
  refine r_getI flX9_62_9 rfl (hs.lt (by decide)) (hs.T 44 rfl) dX9_goDigit_2 ?_
  refine r_imul dX9_goDigit_5 ?_
  refine r_istore_n dX9_goDigit_6 (by decide) rfl ?_
  refine r_aload_n dX9_goDigit_7 rfl ?_
  refine r_getI flX9_65_9 rfl (hs.lt (by decide)) (hs.T 44 rfl) dX9_goDigit_8 ?_
  refine r_if_ne 18 dX9_goDigit_11 (by decide) (fun c11 => ?_) (fun c11 => ?_)
  · skip
    refine r_aload_n dX9_goDigit_18 rfl ?_
    refine r_getI flX9_65_9 rfl (hs.lt (by decide)) (hs.T 44 rfl) dX9_goDigit_19 ?_
    rw [h1]
    refine r_istore_n dX9_goDigit_22 (by decide) rfl ?_
    refine r_dia (P := fun u => (u = 1 ∧ (0 ≤ c - 48 ∧ c - 48 < 8)) ∨ (u = 0 ∧ ¬ (0 ≤ c - 48 ∧ c - 48 < 8))) 74 (fun u hu => ?_) (fun hJ74 => ?_)
    · skip
      refine r_istore dX9_goDigit_74 (by decide) rfl ?_
      refine r_aload_n dX9_goDigit_76 rfl ?_
      refine r_getR flX9_13_9 rfl (hs.lt (by decide)) (hs.T 44 rfl) (hs.R 44 2 rfl) dX9_goDigit_77 ?_
      refine r_iload_n dX9_goDigit_80 rfl ?_
      refine r_aload_n dX9_goDigit_81 rfl ?_
      refine r_getI flX9_65_9 rfl (hs.lt (by decide)) (hs.T 44 rfl) dX9_goDigit_82 ?_
      refine r_if_ne 92 dX9_goDigit_85 (by decide) (fun c85 => ?_) (fun c85 => ?_)
      · skip
        refine r_aload_n dX9_goDigit_92 rfl ?_
        refine r_getR flX9_13_9 rfl (hs.lt (by decide)) (hs.T 44 rfl) (hs.R 44 2 rfl) dX9_goDigit_93 ?_
        refine r_iload_n dX9_goDigit_96 rfl ?_
        refine r_ial (hs.T 46 rfl) (hs.lt (by decide)) (ixB h2 (by omega) (by decide)) dX9_goDigit_97 ?_
        refine r_ias (hs.T 46 rfl) (hs.lt (by decide)) (ixB h2 (by omega) (by decide)) dX9_goDigit_98 ?_
        refine r_aload_n dX9_goDigit_99 rfl ?_
        refine r_getR flX9_13_9 rfl (hs.lt (by decide)) (hs.T 44 rfl) (hs.R 44 2 rfl) dX9_goDigit_100 ?_
        refine r_iload_n dX9_goDigit_103 rfl ?_
        refine r_iload_n dX9_goDigit_104 rfl ?_
        refine r_iadd dX9_goDigit_105 ?_
        refine r_iload_n dX9_goDigit_106 rfl ?_
        refine r_ias (hs.T 46 rfl) (hs.lt (by decide)) (ixA (c := 1) h2 (by omega) (by decide)) dX9_goDigit_107 ?_
        refine r_aload_n dX9_goDigit_108 rfl ?_
        refine r_dup dX9_goDigit_109 rfl ?_
        refine r_getI flX9_62_9 rfl (hs.lt (by decide)) (hs.T 44 rfl) dX9_goDigit_110 ?_
        refine r_iload_n dX9_goDigit_113 rfl ?_
        refine r_iconst (v := 3) dX9_goDigit_114 (by decide) ?_
        refine r_icmp_ne 122 dX9_goDigit_115 (by decide) (fun c115 => ?_) (fun c115 => ?_)
        · skip
          refine r_iconst (v := 0) dX9_goDigit_122 (by decide) ?_
          refine r_iadd dX9_goDigit_123 ?_
          refine r_putI fpX9_62_9 rfl (hs.lt (by decide)) (hs.T 44 rfl) rfl rfl dX9_goDigit_124 ?_
          refine r_aload_n dX9_goDigit_127 rfl ?_
          refine r_iload_n dX9_goDigit_128 rfl ?_
          refine r_iconst (v := 1) dX9_goDigit_129 (by decide) ?_
          refine r_iadd dX9_goDigit_130 ?_
          refine r_putI fpX9_65_9 rfl (hs.lt (by decide)) (hs.T 44 rfl) rfl rfl dX9_goDigit_131 ?_
          refine r_iload dX9_goDigit_134 rfl ?_
          exact r_zret (nar_bool (hu.elim (fun z => Or.inr z.1) (fun z => Or.inl z.1))) dX9_goDigit_136 ⟨_, rfl, gdF, fun k k3 k4 => gdK k3 k4, by
              rcases hu with ⟨e, q⟩ | ⟨e, q⟩
              · refine Or.inl ⟨e, (2, n, va_up rw' (4 * n + 1) (c - 48)), by rw [psT_1, if_pos q], gdQ (by rfl) (by show mI M 44 3 + 0 = _; rw [h2]; exact Int32.add_zero _) (fun j hj => by
                have hj : j < 4 * n + 2 := hj
                rw [va_up_if]
                rw [va_up_if rw']
                by_cases e : j = 4 * n + 1
                · rw [if_pos e, if_pos e]
                · rw [if_neg e, if_neg e, va_up_if]
                  by_cases e2 : j = 4 * n
                  · rw [if_pos e2, ← e2]; exact h3 j (by show j < 4 * n + 1; omega)
                  · rw [if_neg e2]; exact h3 j (by show j < 4 * n + 1; omega))⟩
              · exact Or.inr ⟨e, by rw [psT_1, if_neg q]⟩⟩
        · skip
          exact absurd c115 (by decide)
      · skip
        rw [h1] at c85
        exact absurd c85 (by decide)
    · skip
      refine r_iload_n dX9_goDigit_23 rfl ?_
      refine r_iconst (v := 3) dX9_goDigit_24 (by decide) ?_
      refine r_icmp_ne 40 dX9_goDigit_25 (by decide) (fun c25 => ?_) (fun c25 => ?_)
      · skip
        refine r_iload_n dX9_goDigit_40 rfl ?_
        refine r_i2l dX9_goDigit_41 ?_
        refine r_lconst (v := 0) dX9_goDigit_42 (by decide) ?_
        refine r_ldc2_w (v := 7) dX9_goDigit_43 tw768 ?_
        refine r_cS3i csX9_70 (kX9_in g M (c - 48).toInt64 0 7) hs.pos ⟨Nat.le_of_ble_eq_true rfl, Nat.le_of_ble_eq_true rfl⟩ (Nat.le_of_ble_eq_true rfl) ⟨Nat.le_of_ble_eq_true rfl, Nat.le_of_ble_eq_true rfl⟩ dX9_goDigit_46 (fun z46 M46 h46 => ?_)
        obtain ⟨e46, h46⟩ := h46
        replace e46 := e46.symm
        subst e46
        replace h46 := inI 0 7 h46
        rw [ite_iff h07] at h46
        refine r_if_eq 73 dX9_goDigit_49 (by decide) (fun c49 => ?_) (fun c49 => ?_)
        · skip
          have hfin : ((0 : Int32) = 1 ∧ (0 ≤ c - 48 ∧ c - 48 < 8)) ∨ ((0 : Int32) = 0 ∧ ¬ (0 ≤ c - 48 ∧ c - 48 < 8)) := Or.inr ⟨rfl, zero_of h46 c49⟩
          refine r_iconst (v := 0) dX9_goDigit_73 (by decide) ?_
          exact hJ74 _ hfin
        · skip
          refine r_iload_n dX9_goDigit_52 rfl ?_
          refine r_iconst (v := 1) dX9_goDigit_53 (by decide) ?_
          refine r_icmp_eq 69 dX9_goDigit_54 (by decide) (fun c54 => ?_) (fun c54 => ?_)
          · skip
            have hfin : ((1 : Int32) = 1 ∧ (0 ≤ c - 48 ∧ c - 48 < 8)) ∨ ((1 : Int32) = 0 ∧ ¬ (0 ≤ c - 48 ∧ c - 48 < 8)) := Or.inl ⟨rfl, one_of h46 c49⟩
            refine r_iconst (v := 1) dX9_goDigit_69 (by decide) ?_
            refine r_goto 74 dX9_goDigit_70 (by decide) ?_
            exact hJ74 _ hfin
          · skip
            exact absurd rfl c54
      · skip
        exact absurd c25 (by decide)
  · skip
    rw [h1] at c11
    exact absurd c11 (by decide)
set_option maxHeartbeats 4000000 in
set_option maxRecDepth 100000 in
theorem kX9_goDigit2 (g : Gx) (M : Mm) (hs : St M) (c : Int32) (n : Nat) (hn : n < 8) (rw' : Rw) (H : PRr M (2, n, rw')) : Ct g yX9_goDigit cX9_goDigit 5 (Option.some FieldType.boolean) rmX9_goDigit [.ref (g.1 + 44), .int (c - 48)] M (pI fun r M' => gdP M M' c r (2, n, rw')) := by
  obtain ⟨h1, h2, h3⟩ := H
  have h1 : mI M 44 4 = nI 2 := h1
  have h2 : mI M 44 3 = nI n := h2
  refine Ct.of rfl (Nat.le_of_ble_eq_true rfl) (fun x => ?_)
  refine r_iconst (v := 4) dX9_goDigit_0 (by decide) ?_
  refine r_aload_n dX9_goDigit_1 rfl ?_
  refine r_getI flX9_62_9 rfl (hs.lt (by decide)) (hs.T 44 rfl) dX9_goDigit_2 ?_
  refine r_imul dX9_goDigit_5 ?_
  refine r_istore_n dX9_goDigit_6 (by decide) rfl ?_
  refine r_aload_n dX9_goDigit_7 rfl ?_
  refine r_getI flX9_65_9 rfl (hs.lt (by decide)) (hs.T 44 rfl) dX9_goDigit_8 ?_
  refine r_if_ne 18 dX9_goDigit_11 (by decide) (fun c11 => ?_) (fun c11 => ?_)
  · skip
    refine r_aload_n dX9_goDigit_18 rfl ?_
    refine r_getI flX9_65_9 rfl (hs.lt (by decide)) (hs.T 44 rfl) dX9_goDigit_19 ?_
    rw [h1]
    refine r_istore_n dX9_goDigit_22 (by decide) rfl ?_
    refine r_dia (P := fun u => (u = 1 ∧ ((0 ≤ c - 48 ∧ c - 48 < 8) ∧ ¬ c - 48 = rw' (4 * n + 1))) ∨ (u = 0 ∧ ¬ ((0 ≤ c - 48 ∧ c - 48 < 8) ∧ ¬ c - 48 = rw' (4 * n + 1)))) 74 (fun u hu => ?_) (fun hJ74 => ?_)
    · skip
      refine r_istore dX9_goDigit_74 (by decide) rfl ?_
      refine r_aload_n dX9_goDigit_76 rfl ?_
      refine r_getR flX9_13_9 rfl (hs.lt (by decide)) (hs.T 44 rfl) (hs.R 44 2 rfl) dX9_goDigit_77 ?_
      refine r_iload_n dX9_goDigit_80 rfl ?_
      refine r_aload_n dX9_goDigit_81 rfl ?_
      refine r_getI flX9_65_9 rfl (hs.lt (by decide)) (hs.T 44 rfl) dX9_goDigit_82 ?_
      refine r_if_ne 92 dX9_goDigit_85 (by decide) (fun c85 => ?_) (fun c85 => ?_)
      · skip
        refine r_aload_n dX9_goDigit_92 rfl ?_
        refine r_getR flX9_13_9 rfl (hs.lt (by decide)) (hs.T 44 rfl) (hs.R 44 2 rfl) dX9_goDigit_93 ?_
        refine r_iload_n dX9_goDigit_96 rfl ?_
        refine r_ial (hs.T 46 rfl) (hs.lt (by decide)) (ixB h2 (by omega) (by decide)) dX9_goDigit_97 ?_
        refine r_ias (hs.T 46 rfl) (hs.lt (by decide)) (ixB h2 (by omega) (by decide)) dX9_goDigit_98 ?_
        refine r_aload_n dX9_goDigit_99 rfl ?_
        refine r_getR flX9_13_9 rfl (hs.lt (by decide)) (hs.T 44 rfl) (hs.R 44 2 rfl) dX9_goDigit_100 ?_
        refine r_iload_n dX9_goDigit_103 rfl ?_
        refine r_iload_n dX9_goDigit_104 rfl ?_
        refine r_iadd dX9_goDigit_105 ?_
        refine r_iload_n dX9_goDigit_106 rfl ?_
        refine r_ias (hs.T 46 rfl) (hs.lt (by decide)) (ixA (c := 2) h2 (by omega) (by decide)) dX9_goDigit_107 ?_
        refine r_aload_n dX9_goDigit_108 rfl ?_
        refine r_dup dX9_goDigit_109 rfl ?_
        refine r_getI flX9_62_9 rfl (hs.lt (by decide)) (hs.T 44 rfl) dX9_goDigit_110 ?_
        refine r_iload_n dX9_goDigit_113 rfl ?_
        refine r_iconst (v := 3) dX9_goDigit_114 (by decide) ?_
        refine r_icmp_ne 122 dX9_goDigit_115 (by decide) (fun c115 => ?_) (fun c115 => ?_)
        · skip
          refine r_iconst (v := 0) dX9_goDigit_122 (by decide) ?_
          refine r_iadd dX9_goDigit_123 ?_
          refine r_putI fpX9_62_9 rfl (hs.lt (by decide)) (hs.T 44 rfl) rfl rfl dX9_goDigit_124 ?_
          refine r_aload_n dX9_goDigit_127 rfl ?_
          refine r_iload_n dX9_goDigit_128 rfl ?_
          refine r_iconst (v := 1) dX9_goDigit_129 (by decide) ?_
          refine r_iadd dX9_goDigit_130 ?_
          refine r_putI fpX9_65_9 rfl (hs.lt (by decide)) (hs.T 44 rfl) rfl rfl dX9_goDigit_131 ?_
          refine r_iload dX9_goDigit_134 rfl ?_
          exact r_zret (nar_bool (hu.elim (fun z => Or.inr z.1) (fun z => Or.inl z.1))) dX9_goDigit_136 ⟨_, rfl, gdF, fun k k3 k4 => gdK k3 k4, by
              rcases hu with ⟨e, q⟩ | ⟨e, q⟩
              · refine Or.inl ⟨e, (3, n, va_up rw' (4 * n + 2) (c - 48)), by rw [psT_2, if_pos q], gdQ (by rfl) (by show mI M 44 3 + 0 = _; rw [h2]; exact Int32.add_zero _) (fun j hj => by
                have hj : j < 4 * n + 3 := hj
                rw [va_up_if]
                rw [va_up_if rw']
                by_cases e : j = 4 * n + 2
                · rw [if_pos e, if_pos e]
                · rw [if_neg e, if_neg e, va_up_if]
                  by_cases e2 : j = 4 * n
                  · rw [if_pos e2, ← e2]; exact h3 j (by show j < 4 * n + 2; omega)
                  · rw [if_neg e2]; exact h3 j (by show j < 4 * n + 2; omega))⟩
              · exact Or.inr ⟨e, by rw [psT_2, if_neg q]⟩⟩
        · skip
          exact absurd c115 (by decide)
      · skip
        rw [h1] at c85
        exact absurd c85 (by decide)
    · skip
      refine r_iload_n dX9_goDigit_23 rfl ?_
      refine r_iconst (v := 3) dX9_goDigit_24 (by decide) ?_
      refine r_icmp_ne 40 dX9_goDigit_25 (by decide) (fun c25 => ?_) (fun c25 => ?_)
      · skip
        refine r_iload_n dX9_goDigit_40 rfl ?_
        refine r_i2l dX9_goDigit_41 ?_
        refine r_lconst (v := 0) dX9_goDigit_42 (by decide) ?_
        refine r_ldc2_w (v := 7) dX9_goDigit_43 tw768 ?_
        refine r_cS3i csX9_70 (kX9_in g M (c - 48).toInt64 0 7) hs.pos ⟨Nat.le_of_ble_eq_true rfl, Nat.le_of_ble_eq_true rfl⟩ (Nat.le_of_ble_eq_true rfl) ⟨Nat.le_of_ble_eq_true rfl, Nat.le_of_ble_eq_true rfl⟩ dX9_goDigit_46 (fun z46 M46 h46 => ?_)
        obtain ⟨e46, h46⟩ := h46
        replace e46 := e46.symm
        subst e46
        replace h46 := inI 0 7 h46
        rw [ite_iff h07] at h46
        refine r_if_eq 73 dX9_goDigit_49 (by decide) (fun c49 => ?_) (fun c49 => ?_)
        · skip
          have hfin : ((0 : Int32) = 1 ∧ ((0 ≤ c - 48 ∧ c - 48 < 8) ∧ ¬ c - 48 = rw' (4 * n + 1))) ∨ ((0 : Int32) = 0 ∧ ¬ ((0 ≤ c - 48 ∧ c - 48 < 8) ∧ ¬ c - 48 = rw' (4 * n + 1))) := Or.inr ⟨rfl, fun q => zero_of h46 c49 q.1⟩
          refine r_iconst (v := 0) dX9_goDigit_73 (by decide) ?_
          exact hJ74 _ hfin
        · skip
          refine r_iload_n dX9_goDigit_52 rfl ?_
          refine r_iconst (v := 1) dX9_goDigit_53 (by decide) ?_
          refine r_icmp_eq 69 dX9_goDigit_54 (by decide) (fun c54 => ?_) (fun c54 => ?_)
          · skip
            exact absurd c54 (by decide)
          · skip
            refine r_iload_n dX9_goDigit_57 rfl ?_
            refine r_aload_n dX9_goDigit_58 rfl ?_
            refine r_getR flX9_13_9 rfl (hs.lt (by decide)) (hs.T 44 rfl) (hs.R 44 2 rfl) dX9_goDigit_59 ?_
            refine r_iload_n dX9_goDigit_62 rfl ?_
            refine r_iconst (v := 1) dX9_goDigit_63 (by decide) ?_
            refine r_iadd dX9_goDigit_64 ?_
            refine r_ial (hs.T 46 rfl) (hs.lt (by decide)) (ixA (c := 1) h2 (by omega) (by decide)) dX9_goDigit_65 ?_
            refine r_icmp_eq 73 dX9_goDigit_66 (by decide) (fun c66 => ?_) (fun c66 => ?_)
            · skip
              rw [show mI M 46 (4 * n + 1) = rw' (4 * n + 1) from h3 _ (by show 4 * n + 1 < 4 * n + 2; omega)] at c66
              have hfin : ((0 : Int32) = 1 ∧ ((0 ≤ c - 48 ∧ c - 48 < 8) ∧ ¬ c - 48 = rw' (4 * n + 1))) ∨ ((0 : Int32) = 0 ∧ ¬ ((0 ≤ c - 48 ∧ c - 48 < 8) ∧ ¬ c - 48 = rw' (4 * n + 1))) := Or.inr ⟨rfl, fun q => q.2 c66⟩
              refine r_iconst (v := 0) dX9_goDigit_73 (by decide) ?_
              exact hJ74 _ hfin
            · skip
              rw [show mI M 46 (4 * n + 1) = rw' (4 * n + 1) from h3 _ (by show 4 * n + 1 < 4 * n + 2; omega)] at c66
              have hfin : ((1 : Int32) = 1 ∧ ((0 ≤ c - 48 ∧ c - 48 < 8) ∧ ¬ c - 48 = rw' (4 * n + 1))) ∨ ((1 : Int32) = 0 ∧ ¬ ((0 ≤ c - 48 ∧ c - 48 < 8) ∧ ¬ c - 48 = rw' (4 * n + 1))) := Or.inl ⟨rfl, ⟨one_of h46 c49, c66⟩⟩
              refine r_iconst (v := 1) dX9_goDigit_69 (by decide) ?_
              refine r_goto 74 dX9_goDigit_70 (by decide) ?_
              exact hJ74 _ hfin
      · skip
        exact absurd c25 (by decide)
  · skip
    rw [h1] at c11
    exact absurd c11 (by decide)
set_option maxHeartbeats 4000000 in
set_option maxRecDepth 100000 in
theorem kX9_goDigit3 (g : Gx) (M : Mm) (hs : St M) (c : Int32) (n : Nat) (hn : n < 8) (rw' : Rw) (H : PRr M (3, n, rw')) : Ct g yX9_goDigit cX9_goDigit 5 (Option.some FieldType.boolean) rmX9_goDigit [.ref (g.1 + 44), .int (c - 48)] M (pI fun r M' => gdP M M' c r (3, n, rw')) := by
  obtain ⟨h1, h2, h3⟩ := H
  have h1 : mI M 44 4 = nI 3 := h1
  have h2 : mI M 44 3 = nI n := h2
  refine Ct.of rfl (Nat.le_of_ble_eq_true rfl) (fun x => ?_)
  refine r_iconst (v := 4) dX9_goDigit_0 (by decide) ?_
  refine r_aload_n dX9_goDigit_1 rfl ?_
  refine r_getI flX9_62_9 rfl (hs.lt (by decide)) (hs.T 44 rfl) dX9_goDigit_2 ?_
  refine r_imul dX9_goDigit_5 ?_
  refine r_istore_n dX9_goDigit_6 (by decide) rfl ?_
  refine r_aload_n dX9_goDigit_7 rfl ?_
  refine r_getI flX9_65_9 rfl (hs.lt (by decide)) (hs.T 44 rfl) dX9_goDigit_8 ?_
  refine r_if_ne 18 dX9_goDigit_11 (by decide) (fun c11 => ?_) (fun c11 => ?_)
  · skip
    refine r_aload_n dX9_goDigit_18 rfl ?_
    refine r_getI flX9_65_9 rfl (hs.lt (by decide)) (hs.T 44 rfl) dX9_goDigit_19 ?_
    rw [h1]
    refine r_istore_n dX9_goDigit_22 (by decide) rfl ?_
    refine r_dia (P := fun u => (u = 1 ∧ (0 ≤ c - 48 ∧ c - 48 ≤ 9)) ∨ (u = 0 ∧ ¬ (0 ≤ c - 48 ∧ c - 48 ≤ 9))) 74 (fun u hu => ?_) (fun hJ74 => ?_)
    · skip
      refine r_istore dX9_goDigit_74 (by decide) rfl ?_
      refine r_aload_n dX9_goDigit_76 rfl ?_
      refine r_getR flX9_13_9 rfl (hs.lt (by decide)) (hs.T 44 rfl) (hs.R 44 2 rfl) dX9_goDigit_77 ?_
      refine r_iload_n dX9_goDigit_80 rfl ?_
      refine r_aload_n dX9_goDigit_81 rfl ?_
      refine r_getI flX9_65_9 rfl (hs.lt (by decide)) (hs.T 44 rfl) dX9_goDigit_82 ?_
      refine r_if_ne 92 dX9_goDigit_85 (by decide) (fun c85 => ?_) (fun c85 => ?_)
      · skip
        refine r_aload_n dX9_goDigit_92 rfl ?_
        refine r_getR flX9_13_9 rfl (hs.lt (by decide)) (hs.T 44 rfl) (hs.R 44 2 rfl) dX9_goDigit_93 ?_
        refine r_iload_n dX9_goDigit_96 rfl ?_
        refine r_ial (hs.T 46 rfl) (hs.lt (by decide)) (ixB h2 (by omega) (by decide)) dX9_goDigit_97 ?_
        refine r_ias (hs.T 46 rfl) (hs.lt (by decide)) (ixB h2 (by omega) (by decide)) dX9_goDigit_98 ?_
        refine r_aload_n dX9_goDigit_99 rfl ?_
        refine r_getR flX9_13_9 rfl (hs.lt (by decide)) (hs.T 44 rfl) (hs.R 44 2 rfl) dX9_goDigit_100 ?_
        refine r_iload_n dX9_goDigit_103 rfl ?_
        refine r_iload_n dX9_goDigit_104 rfl ?_
        refine r_iadd dX9_goDigit_105 ?_
        refine r_iload_n dX9_goDigit_106 rfl ?_
        refine r_ias (hs.T 46 rfl) (hs.lt (by decide)) (ixA (c := 3) h2 (by omega) (by decide)) dX9_goDigit_107 ?_
        refine r_aload_n dX9_goDigit_108 rfl ?_
        refine r_dup dX9_goDigit_109 rfl ?_
        refine r_getI flX9_62_9 rfl (hs.lt (by decide)) (hs.T 44 rfl) dX9_goDigit_110 ?_
        refine r_iload_n dX9_goDigit_113 rfl ?_
        refine r_iconst (v := 3) dX9_goDigit_114 (by decide) ?_
        refine r_icmp_ne 122 dX9_goDigit_115 (by decide) (fun c115 => ?_) (fun c115 => ?_)
        · skip
          exact absurd rfl c115
        · skip
          refine r_iconst (v := 1) dX9_goDigit_118 (by decide) ?_
          refine r_goto 123 dX9_goDigit_119 (by decide) ?_
          refine r_iadd dX9_goDigit_123 ?_
          refine r_putI fpX9_62_9 rfl (hs.lt (by decide)) (hs.T 44 rfl) rfl rfl dX9_goDigit_124 ?_
          refine r_aload_n dX9_goDigit_127 rfl ?_
          refine r_iload_n dX9_goDigit_128 rfl ?_
          refine r_iconst (v := 1) dX9_goDigit_129 (by decide) ?_
          refine r_iadd dX9_goDigit_130 ?_
          refine r_putI fpX9_65_9 rfl (hs.lt (by decide)) (hs.T 44 rfl) rfl rfl dX9_goDigit_131 ?_
          refine r_iload dX9_goDigit_134 rfl ?_
          exact r_zret (nar_bool (hu.elim (fun z => Or.inr z.1) (fun z => Or.inl z.1))) dX9_goDigit_136 ⟨_, rfl, gdF, fun k k3 k4 => gdK k3 k4, by
              rcases hu with ⟨e, q⟩ | ⟨e, q⟩
              · refine Or.inl ⟨e, (4, n + 1, va_up rw' (4 * n + 3) (c - 48)), by rw [psT_3, if_pos q], gdQ (by rfl) (by show mI M 44 3 + 1 = _; rw [h2]; exact nI_1 _) (fun j hj => by
                have hj : j < 4 * (n + 1) + 0 := hj
                rw [va_up_if]
                rw [va_up_if rw']
                by_cases e : j = 4 * n + 3
                · rw [if_pos e, if_pos e]
                · rw [if_neg e, if_neg e, va_up_if]
                  by_cases e2 : j = 4 * n
                  · rw [if_pos e2, ← e2]; exact h3 j (by show j < 4 * n + 3; omega)
                  · rw [if_neg e2]; exact h3 j (by show j < 4 * n + 3; omega))⟩
              · exact Or.inr ⟨e, by rw [psT_3, if_neg q]⟩⟩
      · skip
        rw [h1] at c85
        exact absurd c85 (by decide)
    · skip
      refine r_iload_n dX9_goDigit_23 rfl ?_
      refine r_iconst (v := 3) dX9_goDigit_24 (by decide) ?_
      refine r_icmp_ne 40 dX9_goDigit_25 (by decide) (fun c25 => ?_) (fun c25 => ?_)
      · skip
        exact absurd rfl c25
      · skip
        refine r_iload_n dX9_goDigit_28 rfl ?_
        refine r_i2l dX9_goDigit_29 ?_
        refine r_lconst (v := 0) dX9_goDigit_30 (by decide) ?_
        refine r_ldc2_w (v := 9) dX9_goDigit_31 tw764 ?_
        refine r_cS3i csX9_70 (kX9_in g M (c - 48).toInt64 0 9) hs.pos ⟨Nat.le_of_ble_eq_true rfl, Nat.le_of_ble_eq_true rfl⟩ (Nat.le_of_ble_eq_true rfl) ⟨Nat.le_of_ble_eq_true rfl, Nat.le_of_ble_eq_true rfl⟩ dX9_goDigit_34 (fun z34 M34 h34 => ?_)
        obtain ⟨e34, h34⟩ := h34
        replace e34 := e34.symm
        subst e34
        replace h34 := inI 0 9 h34
        have hfin : (z34 = 1 ∧ (0 ≤ c - 48 ∧ c - 48 ≤ 9)) ∨ (z34 = 0 ∧ ¬ (0 ≤ c - 48 ∧ c - 48 ≤ 9)) := by
          by_cases q : (0 ≤ c - 48 ∧ c - 48 ≤ 9)
          · rw [if_pos q] at h34; exact Or.inl ⟨h34, q⟩
          · rw [if_neg q] at h34; exact Or.inr ⟨h34, q⟩
        refine r_goto 74 dX9_goDigit_37 (by decide) ?_
        exact hJ74 _ hfin
  · skip
    rw [h1] at c11
    exact absurd c11 (by decide)
def rmX9_go : Room := { frames := 2, cells := 0, slots := 0, locals := 49 }
set_option maxHeartbeats 4000000 in
set_option maxRecDepth 100000 in
theorem kX9_go4 (g : Gx) (M : Mm) (hs : St M) (c : Int32) (n : Nat) (hn : n ≤ 8) (rw' : Rw) (H : PRr M (4, n, rw')) : Ct g yX9_go cX9_go 2 (Option.some FieldType.boolean) rmX9_go [.ref (g.1 + 44), .int c] M (pI fun r M' => gdP M M' c r (4, n, rw')) := by
  obtain ⟨h1, h2, h3⟩ := id H
  have h1 : mI M 44 4 = nI 4 := h1
  have h2 : mI M 44 3 = nI n := h2
  refine Ct.of rfl (Nat.le_of_ble_eq_true rfl) (fun x => ?_)
  refine r_aload_n dX9_go_0 rfl ?_
  refine r_getI flX9_65_9 rfl (hs.lt (by decide)) (hs.T 44 rfl) dX9_go_1 ?_
  refine r_iconst (v := 4) dX9_go_4 (by decide) ?_
  refine r_icmp_ne 34 dX9_go_5 (by decide) (fun c5 => ?_) (fun c5 => ?_)
  · skip
    exact absurd (by rw [h1]; rfl) c5
  · skip
    refine r_aload_n dX9_go_8 rfl ?_
    refine r_iconst (v := 0) dX9_go_9 (by decide) ?_
    refine r_putI fpX9_65_9 rfl (hs.lt (by decide)) (hs.T 44 rfl) rfl rfl dX9_go_10 ?_
    refine r_dia (P := fun u => (u = 1 ∧ (c = 44 ∧ n < 8)) ∨ (u = 0 ∧ ¬ (c = 44 ∧ n < 8))) 33 (fun u hu => ?_) (fun hJ33 => ?_)
    · skip
      exact r_zret (nar_bool (hu.elim (fun z => Or.inr z.1) (fun z => Or.inl z.1))) dX9_go_33 ⟨_, rfl, (Fr.rf _ _ _).sI (by simp), fun k k3 k4 => by rw [mI_sI, va_up_ne _ _ k4], by
          rcases hu with ⟨e, q⟩ | ⟨e, q⟩
          · exact Or.inl ⟨e, (0, n, rw'), by rw [psT_4, if_pos q], by rw [mI_sI, va_up_self]; rfl, by rw [mI_sI, va_up_ne _ _ (by decide)]; exact h2, fun j hj => by rw [mI_sI_ne (by decide)]; exact h3 j hj⟩
          · exact Or.inr ⟨e, by rw [psT_4, if_neg q]⟩⟩
    · skip
      refine r_iload_n dX9_go_13 rfl ?_
      refine r_bipush (v := 44) dX9_go_14 (by decide) ?_
      refine r_icmp_ne 32 dX9_go_16 (by decide) (fun c16 => ?_) (fun c16 => ?_)
      · skip
        have hfin : ((0 : Int32) = 1 ∧ (c = 44 ∧ n < 8)) ∨ ((0 : Int32) = 0 ∧ ¬ (c = 44 ∧ n < 8)) := Or.inr ⟨rfl, fun q => c16 q.1⟩
        refine r_iconst (v := 0) dX9_go_32 (by decide) ?_
        exact hJ33 _ hfin
      · skip
        refine r_aload_n dX9_go_19 rfl ?_
        refine r_getI flX9_62_9 rfl (hs.lt (by decide)) (hs.T 44 rfl) dX9_go_20 ?_
        refine r_bipush (v := 8) dX9_go_23 (by decide) ?_
        refine r_icmp_ge 32 dX9_go_25 (by decide) (fun c25 => ?_) (fun c25 => ?_)
        · skip
          have c26 : (8 : Int32) ≤ nI n := by rw [← h2]; exact c25
          have hfin : ((0 : Int32) = 1 ∧ (c = 44 ∧ n < 8)) ∨ ((0 : Int32) = 0 ∧ ¬ (c = 44 ∧ n < 8)) := Or.inr ⟨rfl, fun q => by have := (nI_leI (a := 8) (by decide) (by omega)).mp c26; omega⟩
          refine r_iconst (v := 0) dX9_go_32 (by decide) ?_
          exact hJ33 _ hfin
        · skip
          have c26 : ¬ (8 : Int32) ≤ nI n := by rw [← h2]; exact c25
          have hfin : ((1 : Int32) = 1 ∧ (c = 44 ∧ n < 8)) ∨ ((1 : Int32) = 0 ∧ ¬ (c = 44 ∧ n < 8)) := Or.inl ⟨rfl, ⟨c16, Nat.lt_of_not_le (fun q => c26 (nI_le (a := 8) q (by omega)))⟩⟩
          refine r_iconst (v := 1) dX9_go_28 (by decide) ?_
          refine r_goto 33 dX9_go_29 (by decide) ?_
          exact hJ33 _ hfin
set_option maxHeartbeats 4000000 in
set_option maxRecDepth 100000 in
theorem kX9_go0 (g : Gx) (M : Mm) (hs : St M) (c : Int32) (n : Nat) (hn : n < 8) (rw' : Rw) (H : PRr M (0, n, rw')) : Ct g yX9_go cX9_go 2 (Option.some FieldType.boolean) rmX9_go [.ref (g.1 + 44), .int c] M (pI fun r M' => gdP M M' c r (0, n, rw')) := by
  obtain ⟨h1, h2, h3⟩ := id H
  have h1 : mI M 44 4 = nI 0 := h1
  have h2 : mI M 44 3 = nI n := h2
  refine Ct.of rfl (Nat.le_of_ble_eq_true rfl) (fun x => ?_)
  refine r_aload_n dX9_go_0 rfl ?_
  refine r_getI flX9_65_9 rfl (hs.lt (by decide)) (hs.T 44 rfl) dX9_go_1 ?_
  refine r_iconst (v := 4) dX9_go_4 (by decide) ?_
  refine r_icmp_ne 34 dX9_go_5 (by decide) (fun c5 => ?_) (fun c5 => ?_)
  · skip
    refine r_aload_n dX9_go_34 rfl ?_
    refine r_getI flX9_65_9 rfl (hs.lt (by decide)) (hs.T 44 rfl) dX9_go_35 ?_
    refine r_if_ne 71 dX9_go_38 (by decide) (fun c38 => ?_) (fun c38 => ?_)
    · skip
      exact absurd (by rw [h1]; rfl) c38
    · skip
      refine r_iload_n dX9_go_41 rfl ?_
      refine r_cS1i csX9_76 (kX9_kindOf g M c) hs.pos ⟨Nat.le_of_ble_eq_true rfl, Nat.le_of_ble_eq_true rfl⟩ (Nat.le_of_ble_eq_true rfl) ⟨Nat.le_of_ble_eq_true rfl, Nat.le_of_ble_eq_true rfl⟩ dX9_go_42 (fun z42 M42 h42 => ?_)
      obtain ⟨e42, h42⟩ := h42
      replace e42 := e42.symm
      subst e42
      refine r_iconst (v := -1) dX9_go_45 (by decide) ?_
      refine r_icmp_eq 71 dX9_go_46 (by decide) (fun c46 => ?_) (fun c46 => ?_)
      · skip
        have hk : kdC c = 0 := Classical.byContradiction (fun q => by rw [h42, kdR, if_neg q] at c46; exact nI_ne_m1 (by have := kdC_lt c; omega) c46)
        refine r_aload_n dX9_go_71 rfl ?_
        refine r_iload_n dX9_go_72 rfl ?_
        refine r_bipush (v := 48) dX9_go_73 (by decide) ?_
        refine r_isub dX9_go_75 ?_
        refine r_cV1i cvX9_80 (kX9_goDigit0 g M hs c n hn rw' H hk) (hs.lt (by decide)) (hs.T 44 rfl) ⟨Nat.le_of_ble_eq_true rfl, Nat.le_of_ble_eq_true rfl⟩ (Nat.le_of_ble_eq_true rfl) ⟨Nat.le_of_ble_eq_true rfl, Nat.le_of_ble_eq_true rfl⟩ dX9_go_76 (fun z76 M76 h76 => ?_)
        exact r_zret (nar_bool (h76.2.2.elim (fun z => Or.inr z.1) (fun z => Or.inl z.1))) dX9_go_79 ⟨_, rfl, h76⟩
      · skip
        have hk : ¬ kdC c = 0 := fun q => c46 (by rw [h42, kdR, if_pos q])
        refine r_aload_n dX9_go_49 rfl ?_
        refine r_getR flX9_13_9 rfl (hs.lt (by decide)) (hs.T 44 rfl) (hs.R 44 2 rfl) dX9_go_50 ?_
        refine r_iconst (v := 4) dX9_go_53 (by decide) ?_
        refine r_aload_n dX9_go_54 rfl ?_
        refine r_getI flX9_62_9 rfl (hs.lt (by decide)) (hs.T 44 rfl) dX9_go_55 ?_
        refine r_imul dX9_go_58 ?_
        refine r_iload_n dX9_go_59 rfl ?_
        refine r_cS1i csX9_76 (kX9_kindOf g M c) hs.pos ⟨Nat.le_of_ble_eq_true rfl, Nat.le_of_ble_eq_true rfl⟩ (Nat.le_of_ble_eq_true rfl) ⟨Nat.le_of_ble_eq_true rfl, Nat.le_of_ble_eq_true rfl⟩ dX9_go_60 (fun z60 M60 h60 => ?_)
        obtain ⟨e60, h60⟩ := h60
        replace e60 := e60.symm
        subst e60
        rw [kdR, if_neg hk] at h60
        subst h60
        refine r_ias (hs.T 46 rfl) (hs.lt (by decide)) (ixB h2 (by omega) (by decide)) dX9_go_63 ?_
        refine r_aload_n dX9_go_64 rfl ?_
        refine r_iconst (v := 1) dX9_go_65 (by decide) ?_
        refine r_putI fpX9_65_9 rfl (hs.lt (by decide)) (hs.T 44 rfl) rfl rfl dX9_go_66 ?_
        refine r_iconst (v := 1) dX9_go_69 (by decide) ?_
        exact r_zret (nar_bool (by simp)) dX9_go_70 ⟨_, rfl, ((Fr.rf _ _ _).sI (by simp)).sI (by simp), fun k k3 k4 => by rw [mI_sI, va_up_ne _ _ k4, mI_sI_ne (by decide)], Or.inl ⟨rfl, (1, n, va_up rw' (4 * n) (nI (kdC c))), psT_k hk, by rw [mI_sI, va_up_self]; rfl, by rw [mI_sI, va_up_ne _ _ (by decide), mI_sI_ne (by decide)]; exact h2, fun j hj => by
            have hj : j < 4 * n + 1 := hj
            rw [mI_sI_ne (by decide), mI_sI, va_up_if]
            show _ = va_up rw' (4 * n) (nI (kdC c)) j
            rw [va_up_if]
            split
            · rfl
            · exact h3 j (by show j < 4 * n + 0; omega)⟩⟩
  · skip
    rw [h1] at c5
    exact absurd c5 (by decide)
set_option maxHeartbeats 4000000 in
set_option maxRecDepth 100000 in
theorem kX9_go1 (g : Gx) (M : Mm) (hs : St M) (c : Int32) (n : Nat) (hn : n < 8) (rw' : Rw) (H : PRr M (1, n, rw')) : Ct g yX9_go cX9_go 2 (Option.some FieldType.boolean) rmX9_go [.ref (g.1 + 44), .int c] M (pI fun r M' => gdP M M' c r (1, n, rw')) := by
  obtain ⟨h1, h2, h3⟩ := id H
  have h1 : mI M 44 4 = nI 1 := h1
  have h2 : mI M 44 3 = nI n := h2
  refine Ct.of rfl (Nat.le_of_ble_eq_true rfl) (fun x => ?_)
  refine r_aload_n dX9_go_0 rfl ?_
  refine r_getI flX9_65_9 rfl (hs.lt (by decide)) (hs.T 44 rfl) dX9_go_1 ?_
  refine r_iconst (v := 4) dX9_go_4 (by decide) ?_
  refine r_icmp_ne 34 dX9_go_5 (by decide) (fun c5 => ?_) (fun c5 => ?_)
  · skip
    refine r_aload_n dX9_go_34 rfl ?_
    refine r_getI flX9_65_9 rfl (hs.lt (by decide)) (hs.T 44 rfl) dX9_go_35 ?_
    refine r_if_ne 71 dX9_go_38 (by decide) (fun c38 => ?_) (fun c38 => ?_)
    · skip
      refine r_aload_n dX9_go_71 rfl ?_
      refine r_iload_n dX9_go_72 rfl ?_
      refine r_bipush (v := 48) dX9_go_73 (by decide) ?_
      refine r_isub dX9_go_75 ?_
      refine r_cV1i cvX9_80 (kX9_goDigit1 g M hs c n hn rw' H) (hs.lt (by decide)) (hs.T 44 rfl) ⟨Nat.le_of_ble_eq_true rfl, Nat.le_of_ble_eq_true rfl⟩ (Nat.le_of_ble_eq_true rfl) ⟨Nat.le_of_ble_eq_true rfl, Nat.le_of_ble_eq_true rfl⟩ dX9_go_76 (fun z76 M76 h76 => ?_)
      exact r_zret (nar_bool (h76.2.2.elim (fun z => Or.inr z.1) (fun z => Or.inl z.1))) dX9_go_79 ⟨_, rfl, h76⟩
    · skip
      rw [h1] at c38
      exact absurd c38 (by decide)
  · skip
    rw [h1] at c5
    exact absurd c5 (by decide)
set_option maxHeartbeats 4000000 in
set_option maxRecDepth 100000 in
theorem kX9_go2 (g : Gx) (M : Mm) (hs : St M) (c : Int32) (n : Nat) (hn : n < 8) (rw' : Rw) (H : PRr M (2, n, rw')) : Ct g yX9_go cX9_go 2 (Option.some FieldType.boolean) rmX9_go [.ref (g.1 + 44), .int c] M (pI fun r M' => gdP M M' c r (2, n, rw')) := by
  obtain ⟨h1, h2, h3⟩ := id H
  have h1 : mI M 44 4 = nI 2 := h1
  have h2 : mI M 44 3 = nI n := h2
  refine Ct.of rfl (Nat.le_of_ble_eq_true rfl) (fun x => ?_)
  refine r_aload_n dX9_go_0 rfl ?_
  refine r_getI flX9_65_9 rfl (hs.lt (by decide)) (hs.T 44 rfl) dX9_go_1 ?_
  refine r_iconst (v := 4) dX9_go_4 (by decide) ?_
  refine r_icmp_ne 34 dX9_go_5 (by decide) (fun c5 => ?_) (fun c5 => ?_)
  · skip
    refine r_aload_n dX9_go_34 rfl ?_
    refine r_getI flX9_65_9 rfl (hs.lt (by decide)) (hs.T 44 rfl) dX9_go_35 ?_
    refine r_if_ne 71 dX9_go_38 (by decide) (fun c38 => ?_) (fun c38 => ?_)
    · skip
      refine r_aload_n dX9_go_71 rfl ?_
      refine r_iload_n dX9_go_72 rfl ?_
      refine r_bipush (v := 48) dX9_go_73 (by decide) ?_
      refine r_isub dX9_go_75 ?_
      refine r_cV1i cvX9_80 (kX9_goDigit2 g M hs c n hn rw' H) (hs.lt (by decide)) (hs.T 44 rfl) ⟨Nat.le_of_ble_eq_true rfl, Nat.le_of_ble_eq_true rfl⟩ (Nat.le_of_ble_eq_true rfl) ⟨Nat.le_of_ble_eq_true rfl, Nat.le_of_ble_eq_true rfl⟩ dX9_go_76 (fun z76 M76 h76 => ?_)
      exact r_zret (nar_bool (h76.2.2.elim (fun z => Or.inr z.1) (fun z => Or.inl z.1))) dX9_go_79 ⟨_, rfl, h76⟩
    · skip
      rw [h1] at c38
      exact absurd c38 (by decide)
  · skip
    rw [h1] at c5
    exact absurd c5 (by decide)
set_option maxHeartbeats 4000000 in
set_option maxRecDepth 100000 in
theorem kX9_go3 (g : Gx) (M : Mm) (hs : St M) (c : Int32) (n : Nat) (hn : n < 8) (rw' : Rw) (H : PRr M (3, n, rw')) : Ct g yX9_go cX9_go 2 (Option.some FieldType.boolean) rmX9_go [.ref (g.1 + 44), .int c] M (pI fun r M' => gdP M M' c r (3, n, rw')) := by
  obtain ⟨h1, h2, h3⟩ := id H
  have h1 : mI M 44 4 = nI 3 := h1
  have h2 : mI M 44 3 = nI n := h2
  refine Ct.of rfl (Nat.le_of_ble_eq_true rfl) (fun x => ?_)
  refine r_aload_n dX9_go_0 rfl ?_
  refine r_getI flX9_65_9 rfl (hs.lt (by decide)) (hs.T 44 rfl) dX9_go_1 ?_
  refine r_iconst (v := 4) dX9_go_4 (by decide) ?_
  refine r_icmp_ne 34 dX9_go_5 (by decide) (fun c5 => ?_) (fun c5 => ?_)
  · skip
    refine r_aload_n dX9_go_34 rfl ?_
    refine r_getI flX9_65_9 rfl (hs.lt (by decide)) (hs.T 44 rfl) dX9_go_35 ?_
    refine r_if_ne 71 dX9_go_38 (by decide) (fun c38 => ?_) (fun c38 => ?_)
    · skip
      refine r_aload_n dX9_go_71 rfl ?_
      refine r_iload_n dX9_go_72 rfl ?_
      refine r_bipush (v := 48) dX9_go_73 (by decide) ?_
      refine r_isub dX9_go_75 ?_
      refine r_cV1i cvX9_80 (kX9_goDigit3 g M hs c n hn rw' H) (hs.lt (by decide)) (hs.T 44 rfl) ⟨Nat.le_of_ble_eq_true rfl, Nat.le_of_ble_eq_true rfl⟩ (Nat.le_of_ble_eq_true rfl) ⟨Nat.le_of_ble_eq_true rfl, Nat.le_of_ble_eq_true rfl⟩ dX9_go_76 (fun z76 M76 h76 => ?_)
      exact r_zret (nar_bool (h76.2.2.elim (fun z => Or.inr z.1) (fun z => Or.inl z.1))) dX9_go_79 ⟨_, rfl, h76⟩
    · skip
      rw [h1] at c38
      exact absurd c38 (by decide)
  · skip
    rw [h1] at c5
    exact absurd c5 (by decide)
theorem kX9_go (g : Gx) (M : Mm) (hs : St M) (c : Int32) (q : Ps) (w : PW q) (H : PRr M q) : Ct g yX9_go cX9_go 2 (Option.some FieldType.boolean) rmX9_go [.ref (g.1 + 44), .int c] M (pI fun r M' => gdP M M' c r q) := by
  obtain ⟨st, n, rw'⟩ := q
  obtain ⟨w1, w2, w3, _⟩ := w
  have w1 : st ≤ 4 := w1
  rcases (show st = 0 ∨ st = 1 ∨ st = 2 ∨ st = 3 ∨ st = 4 by omega) with z | z | z | z | z <;> subst z
  · exact kX9_go0 g M hs c n (w3 (by simp)) rw' H
  · exact kX9_go1 g M hs c n (w3 (by simp)) rw' H
  · exact kX9_go2 g M hs c n (w3 (by simp)) rw' H
  · exact kX9_go3 g M hs c n (w3 (by simp)) rw' H
  · exact kX9_go4 g M hs c n (w2 rfl).2 rw' H
def rmX9_faultOf : Room := { frames := 3, cells := 0, slots := 0, locals := 70 }
set_option maxHeartbeats 4000000 in
set_option maxRecDepth 100000 in
theorem lp_rfault (g : Gx) (x : Cx) (M : Mm) (hs : St M) (pg : Rw) (pn : Nat) (hpn : mI M 44 1 = nI pn) (h40 : pn ≤ 40) (hpg : ∀ k, k < pn → mI M 45 k = pg k) : ∀ (n : Nat) (i : Nat) (v : Int32) (M1 : Mm) (q : Ps), i ≤ pn → pn - i < n → v = nI i → Fr [44, 46] [] M M1 → (∀ k, k ≠ 3 → k ≠ 4 → mI M1 44 k = mI M 44 k) → psR pg i = some q → PRr M1 q → Vj x g yX9_faultOf cX9_faultOf 2 (Option.some FieldType.int) rmX9_faultOf (Qm x g rmX9_faultOf.cells rmX9_faultOf.slots (pI fun r M' => Fr [44, 46] [] M M' ∧ (∀ k, k ≠ 3 → k ≠ 4 → mI M' 44 k = mI M 44 k) ∧ ∃ k, r = nI k ∧ flP pg pn k ∧ (k = pn → ∃ q, psR pg pn = some q ∧ PRr M' q))) 0 0 M1 12 [(0, some (.ref (g.1 + 44))), (1, some (.int v))] [] := by
  intro n
  induction n with
  | zero => intro i v M1 q hi8 hn hv hF ek hq H; omega
  | succ n ih =>
    intro i v M1 q hi8 hn hv hF ek hq H
    have hs1 := hs.fr hF
    subst hv
    have hv : nI i = nI i := rfl
    refine r_iload_n dX9_faultOf_12 rfl ?_
    refine r_aload_n dX9_faultOf_13 rfl ?_
    refine r_getI flX9_59_9 rfl (hs1.lt (by decide)) (hs1.T 44 rfl) dX9_faultOf_14 ?_
    refine r_icmp_ge 39 dX9_faultOf_17 (by decide) (fun c17 => ?_) (fun c17 => ?_)
    · skip
      rw [ek 1 (by decide) (by decide)] at c17
      have ez := lp_ge (n := pn) hv hpn c17 hi8 (by omega)
      subst ez
      refine r_iload_n dX9_faultOf_39 rfl ?_
      exact r_iret dX9_faultOf_40 ⟨_, rfl, hF, ek, i, rfl, ⟨Nat.le_refl _, q, hq, fun z => absurd z (Nat.lt_irrefl _)⟩, fun _ => ⟨q, hq, H⟩⟩
    · skip
      rw [ek 1 (by decide) (by decide)] at c17
      have hi : i < pn := lp_lt (n := pn) hv hpn c17 hi8 (by omega)
      refine r_aload_n dX9_faultOf_20 rfl ?_
      refine r_aload_n dX9_faultOf_21 rfl ?_
      refine r_getR flX9_7_9 rfl (hs1.lt (by decide)) (hs1.T 44 rfl) (hs1.R 44 0 rfl) dX9_faultOf_22 ?_
      refine r_iload_n dX9_faultOf_25 rfl ?_
      refine r_ial (hs1.T 45 rfl) (hs1.lt (by decide)) (ix_nI (by omega) (by decide)) dX9_faultOf_26 ?_
      refine r_cV1i cvX9_84 ((show Ct _ _ _ _ _ _ [.ref (g.1 + 44), .int (mI M1 45 i)] _ _ from by rw [hF.2.1 45 (by decide), hpg i hi]; exact kX9_go g M1 hs1 (pg i) q (psR_PW hq) H)) (hs1.lt (by decide)) (hs1.T 44 rfl) ⟨Nat.le_of_ble_eq_true rfl, Nat.le_of_ble_eq_true rfl⟩ (Nat.le_of_ble_eq_true rfl) ⟨Nat.le_of_ble_eq_true rfl, Nat.le_of_ble_eq_true rfl⟩ dX9_faultOf_27 (fun z27 M27 h27 => ?_)
      obtain ⟨f27, k27, h27⟩ := h27
      have hF2 := hF.tr f27
      have hs27 := hs.fr hF2
      have ek2 : ∀ k, k ≠ 3 → k ≠ 4 → mI M27 44 k = mI M 44 k := fun k a b => (k27 k a b).trans (ek k a b)
      refine r_if_eq 39 dX9_faultOf_30 (by decide) (fun c30 => ?_) (fun c30 => ?_)
      · skip
        refine r_iload_n dX9_faultOf_39 rfl ?_
        exact r_iret dX9_faultOf_40 ⟨_, rfl, hF2, ek2, i, rfl, ⟨by omega, q, hq, fun _ => (h27.resolve_left (fun z => absurd (z.1.symm.trans c30) (by decide))).2⟩, fun z => by omega⟩
      · skip
        refine r_iinc dX9_faultOf_33 rfl rfl rfl ?_
        refine r_goto 12 dX9_faultOf_36 (by decide) ?_
        obtain ⟨_, q', e1, e2⟩ := h27.resolve_right (fun z => c30 z.1)
        exact r_lv (lvSc rfl (lvSc rfl lvS0)) (ih (i + 1) _ _ q' (by omega) (by omega) (nI_inc rfl) hF2 ek2 (psR_s hq e1) e2)
set_option maxHeartbeats 4000000 in
set_option maxRecDepth 100000 in
theorem kX9_faultOf (g : Gx) (M : Mm) (hs : St M) (pg : Rw) (pn : Nat) (hpn : mI M 44 1 = nI pn) (h40 : pn ≤ 40) (hpg : ∀ k, k < pn → mI M 45 k = pg k) : Ct g yX9_faultOf cX9_faultOf 2 (Option.some FieldType.int) rmX9_faultOf [.ref (g.1 + 44)] M (pI fun r M' => Fr [44, 46] [] M M' ∧ (∀ k, k ≠ 3 → k ≠ 4 → mI M' 44 k = mI M 44 k) ∧ ∃ k, r = nI k ∧ flP pg pn k ∧ (k = pn → ∃ q, psR pg pn = some q ∧ PRr M' q)) := by
  refine Ct.of rfl (Nat.le_of_ble_eq_true rfl) (fun x => ?_)
  refine r_aload_n dX9_faultOf_0 rfl ?_
  refine r_iconst (v := 0) dX9_faultOf_1 (by decide) ?_
  refine r_putI fpX9_62_9 rfl (hs.lt (by decide)) (hs.T 44 rfl) rfl rfl dX9_faultOf_2 ?_
  refine r_aload_n dX9_faultOf_5 rfl ?_
  refine r_iconst (v := 0) dX9_faultOf_6 (by decide) ?_
  refine r_putI fpX9_65_9 rfl (hs.lt (by decide)) (hs.T 44 rfl) rfl rfl dX9_faultOf_7 ?_
  refine r_iconst (v := 0) dX9_faultOf_10 (by decide) ?_
  refine r_istore_n dX9_faultOf_11 (by decide) rfl ?_
  exact r_lv (lvSc rfl (lvSc rfl lvS0)) (lp_rfault g x M hs pg pn hpn h40 hpg (pn + 1) 0 0 _ (0, 0, fun _ => 0) (by omega) (by omega) rfl (((Fr.rf _ _ _).sI (by simp)).sI (by simp)) (fun k a b => by rw [mI_sI, va_up_ne _ _ b, mI_sI, va_up_ne _ _ a]) rfl ⟨by rw [mI_sI, va_up_self]; rfl, by rw [mI_sI, va_up_ne _ _ (by decide), mI_sI, va_up_self]; rfl, fun j hj => absurd hj (Nat.not_lt_zero j)⟩)
def rmX9_fault : Room := { frames := 4, cells := 0, slots := 0, locals := 91 }
set_option maxHeartbeats 4000000 in
set_option maxRecDepth 100000 in
theorem kX9_fault (g : Gx) (M : Mm) (hs : St M) (pg : Rw) (pn : Nat) (hpn : mI M 44 1 = nI pn) (h40 : pn ≤ 40) (hpg : ∀ k, k < pn → mI M 45 k = pg k) : Ct g yX9_fault cX9_fault 1 (Option.some FieldType.int) rmX9_fault [.ref (g.1 + 44)] M (pI fun r M' => Fr [44, 46] [] M M' ∧ (∀ k, k ≠ 3 → k ≠ 4 → mI M' 44 k = mI M 44 k) ∧ ∃ k, r = nI k ∧ flP pg pn k ∧ (k = pn → ∃ q, psR pg pn = some q ∧ PRr M' q)) := by
  refine Ct.of rfl (Nat.le_of_ble_eq_true rfl) (fun x => ?_)
  refine r_aload_n dX9_fault_0 rfl ?_
  refine r_cV0i cvX9_87 (kX9_faultOf g M hs pg pn hpn h40 hpg) (hs.lt (by decide)) (hs.T 44 rfl) ⟨Nat.le_of_ble_eq_true rfl, Nat.le_of_ble_eq_true rfl⟩ (Nat.le_of_ble_eq_true rfl) ⟨Nat.le_of_ble_eq_true rfl, Nat.le_of_ble_eq_true rfl⟩ dX9_fault_1 (fun z1 M1 h1 => ?_)
  exact r_iret dX9_fault_4 ⟨_, rfl, h1⟩
