def rmJ6_numberOfTrailingZeros_0f7a4 : Room := { frames := 0, cells := 0, slots := 0, locals := 0 }
set_option maxHeartbeats 4000000 in
set_option maxRecDepth 100000 in
theorem kJ6_ntz (g : Gx) (M : Mm) (k : Nat) (hk : k < 256) (h1 : 1 ≤ k) : Ct g yJ6_numberOfTrailingZeros_0f7a4 cJ6_numberOfTrailingZeros_0f7a4 2 (Option.some FieldType.int) rmJ6_numberOfTrailingZeros_0f7a4 [.int (nI k)] M (pI fun r M' => M' = M ∧ r = nI (ntzN k)) := by
  refine Ct.of rfl (Nat.le_of_ble_eq_true rfl) (fun x => ?_)
  refine r_iload_n dJ6_numberOfTrailingZeros_0f7a4_0 rfl ?_
  refine r_iconst (v := -1) dJ6_numberOfTrailingZeros_0f7a4_1 (by decide) ?_
  refine r_ixor dJ6_numberOfTrailingZeros_0f7a4_2 ?_
  refine r_iload_n dJ6_numberOfTrailingZeros_0f7a4_3 rfl ?_
  refine r_iconst (v := 1) dJ6_numberOfTrailingZeros_0f7a4_4 (by decide) ?_
  refine r_isub dJ6_numberOfTrailingZeros_0f7a4_5 ?_
  refine r_iand dJ6_numberOfTrailingZeros_0f7a4_6 ?_
  refine r_top (fun u hu => ?_)
  refine r_istore_n dJ6_numberOfTrailingZeros_0f7a4_7 (by decide) rfl ?_
  rw [m_ntzu k hk h1] at hu
  have hz := (m_ntz k hk h1).1
  generalize ntzN k = j at hu hz ⊢
  rcases (show j = 0 ∨ j = 1 ∨ j = 2 ∨ j = 3 ∨ j = 4 ∨ j = 5 ∨ j = 6 ∨ j = 7 by omega) with e | e | e | e | e | e | e | e <;> subst e <;> subst hu
  · skip
    refine r_iload_n dJ6_numberOfTrailingZeros_0f7a4_8 rfl ?_
    refine r_if_gt 17 dJ6_numberOfTrailingZeros_0f7a4_9 (by decide) (fun c9 => ?_) (fun c9 => ?_)
    · skip
      exact absurd c9 (by decide)
    · skip
      refine r_iload_n dJ6_numberOfTrailingZeros_0f7a4_12 rfl ?_
      refine r_bipush (v := 32) dJ6_numberOfTrailingZeros_0f7a4_13 (by decide) ?_
      refine r_iand dJ6_numberOfTrailingZeros_0f7a4_15 ?_
      exact r_iret dJ6_numberOfTrailingZeros_0f7a4_16 ⟨_, rfl, rfl, by decide⟩
  · skip
    refine r_iload_n dJ6_numberOfTrailingZeros_0f7a4_8 rfl ?_
    refine r_if_gt 17 dJ6_numberOfTrailingZeros_0f7a4_9 (by decide) (fun c9 => ?_) (fun c9 => ?_)
    · skip
      refine r_iconst (v := 1) dJ6_numberOfTrailingZeros_0f7a4_17 (by decide) ?_
      refine r_istore_n dJ6_numberOfTrailingZeros_0f7a4_18 (by decide) rfl ?_
      refine r_iload_n dJ6_numberOfTrailingZeros_0f7a4_19 rfl ?_
      refine r_ldc_w (v := 65536) dJ6_numberOfTrailingZeros_0f7a4_20 tw562 ?_
      refine r_icmp_le 34 dJ6_numberOfTrailingZeros_0f7a4_23 (by decide) (fun c23 => ?_) (fun c23 => ?_)
      · skip
        refine r_iload_n dJ6_numberOfTrailingZeros_0f7a4_34 rfl ?_
        refine r_sipush (v := 256) dJ6_numberOfTrailingZeros_0f7a4_35 (by decide) ?_
        refine r_icmp_le 49 dJ6_numberOfTrailingZeros_0f7a4_38 (by decide) (fun c38 => ?_) (fun c38 => ?_)
        · skip
          refine r_iload_n dJ6_numberOfTrailingZeros_0f7a4_49 rfl ?_
          refine r_bipush (v := 16) dJ6_numberOfTrailingZeros_0f7a4_50 (by decide) ?_
          refine r_icmp_le 62 dJ6_numberOfTrailingZeros_0f7a4_52 (by decide) (fun c52 => ?_) (fun c52 => ?_)
          · skip
            refine r_iload_n dJ6_numberOfTrailingZeros_0f7a4_62 rfl ?_
            refine r_iconst (v := 4) dJ6_numberOfTrailingZeros_0f7a4_63 (by decide) ?_
            refine r_icmp_le 74 dJ6_numberOfTrailingZeros_0f7a4_64 (by decide) (fun c64 => ?_) (fun c64 => ?_)
            · skip
              refine r_iload_n dJ6_numberOfTrailingZeros_0f7a4_74 rfl ?_
              refine r_iload_n dJ6_numberOfTrailingZeros_0f7a4_75 rfl ?_
              refine r_iconst (v := 1) dJ6_numberOfTrailingZeros_0f7a4_76 (by decide) ?_
              refine r_iushr dJ6_numberOfTrailingZeros_0f7a4_77 ?_
              refine r_iadd dJ6_numberOfTrailingZeros_0f7a4_78 ?_
              exact r_iret dJ6_numberOfTrailingZeros_0f7a4_79 ⟨_, rfl, rfl, by decide⟩
            · skip
              exact absurd c64 (by decide)
          · skip
            exact absurd c52 (by decide)
        · skip
          exact absurd c38 (by decide)
      · skip
        exact absurd c23 (by decide)
    · skip
      exact absurd c9 (by decide)
  · skip
    refine r_iload_n dJ6_numberOfTrailingZeros_0f7a4_8 rfl ?_
    refine r_if_gt 17 dJ6_numberOfTrailingZeros_0f7a4_9 (by decide) (fun c9 => ?_) (fun c9 => ?_)
    · skip
      refine r_iconst (v := 1) dJ6_numberOfTrailingZeros_0f7a4_17 (by decide) ?_
      refine r_istore_n dJ6_numberOfTrailingZeros_0f7a4_18 (by decide) rfl ?_
      refine r_iload_n dJ6_numberOfTrailingZeros_0f7a4_19 rfl ?_
      refine r_ldc_w (v := 65536) dJ6_numberOfTrailingZeros_0f7a4_20 tw562 ?_
      refine r_icmp_le 34 dJ6_numberOfTrailingZeros_0f7a4_23 (by decide) (fun c23 => ?_) (fun c23 => ?_)
      · skip
        refine r_iload_n dJ6_numberOfTrailingZeros_0f7a4_34 rfl ?_
        refine r_sipush (v := 256) dJ6_numberOfTrailingZeros_0f7a4_35 (by decide) ?_
        refine r_icmp_le 49 dJ6_numberOfTrailingZeros_0f7a4_38 (by decide) (fun c38 => ?_) (fun c38 => ?_)
        · skip
          refine r_iload_n dJ6_numberOfTrailingZeros_0f7a4_49 rfl ?_
          refine r_bipush (v := 16) dJ6_numberOfTrailingZeros_0f7a4_50 (by decide) ?_
          refine r_icmp_le 62 dJ6_numberOfTrailingZeros_0f7a4_52 (by decide) (fun c52 => ?_) (fun c52 => ?_)
          · skip
            refine r_iload_n dJ6_numberOfTrailingZeros_0f7a4_62 rfl ?_
            refine r_iconst (v := 4) dJ6_numberOfTrailingZeros_0f7a4_63 (by decide) ?_
            refine r_icmp_le 74 dJ6_numberOfTrailingZeros_0f7a4_64 (by decide) (fun c64 => ?_) (fun c64 => ?_)
            · skip
              refine r_iload_n dJ6_numberOfTrailingZeros_0f7a4_74 rfl ?_
              refine r_iload_n dJ6_numberOfTrailingZeros_0f7a4_75 rfl ?_
              refine r_iconst (v := 1) dJ6_numberOfTrailingZeros_0f7a4_76 (by decide) ?_
              refine r_iushr dJ6_numberOfTrailingZeros_0f7a4_77 ?_
              refine r_iadd dJ6_numberOfTrailingZeros_0f7a4_78 ?_
              exact r_iret dJ6_numberOfTrailingZeros_0f7a4_79 ⟨_, rfl, rfl, by decide⟩
            · skip
              exact absurd c64 (by decide)
          · skip
            exact absurd c52 (by decide)
        · skip
          exact absurd c38 (by decide)
      · skip
        exact absurd c23 (by decide)
    · skip
      exact absurd c9 (by decide)
  · skip
    refine r_iload_n dJ6_numberOfTrailingZeros_0f7a4_8 rfl ?_
    refine r_if_gt 17 dJ6_numberOfTrailingZeros_0f7a4_9 (by decide) (fun c9 => ?_) (fun c9 => ?_)
    · skip
      refine r_iconst (v := 1) dJ6_numberOfTrailingZeros_0f7a4_17 (by decide) ?_
      refine r_istore_n dJ6_numberOfTrailingZeros_0f7a4_18 (by decide) rfl ?_
      refine r_iload_n dJ6_numberOfTrailingZeros_0f7a4_19 rfl ?_
      refine r_ldc_w (v := 65536) dJ6_numberOfTrailingZeros_0f7a4_20 tw562 ?_
      refine r_icmp_le 34 dJ6_numberOfTrailingZeros_0f7a4_23 (by decide) (fun c23 => ?_) (fun c23 => ?_)
      · skip
        refine r_iload_n dJ6_numberOfTrailingZeros_0f7a4_34 rfl ?_
        refine r_sipush (v := 256) dJ6_numberOfTrailingZeros_0f7a4_35 (by decide) ?_
        refine r_icmp_le 49 dJ6_numberOfTrailingZeros_0f7a4_38 (by decide) (fun c38 => ?_) (fun c38 => ?_)
        · skip
          refine r_iload_n dJ6_numberOfTrailingZeros_0f7a4_49 rfl ?_
          refine r_bipush (v := 16) dJ6_numberOfTrailingZeros_0f7a4_50 (by decide) ?_
          refine r_icmp_le 62 dJ6_numberOfTrailingZeros_0f7a4_52 (by decide) (fun c52 => ?_) (fun c52 => ?_)
          · skip
            refine r_iload_n dJ6_numberOfTrailingZeros_0f7a4_62 rfl ?_
            refine r_iconst (v := 4) dJ6_numberOfTrailingZeros_0f7a4_63 (by decide) ?_
            refine r_icmp_le 74 dJ6_numberOfTrailingZeros_0f7a4_64 (by decide) (fun c64 => ?_) (fun c64 => ?_)
            · skip
              exact absurd c64 (by decide)
            · skip
              refine r_iinc dJ6_numberOfTrailingZeros_0f7a4_67 rfl rfl rfl ?_
              refine r_iload_n dJ6_numberOfTrailingZeros_0f7a4_70 rfl ?_
              refine r_iconst (v := 2) dJ6_numberOfTrailingZeros_0f7a4_71 (by decide) ?_
              refine r_iushr dJ6_numberOfTrailingZeros_0f7a4_72 ?_
              refine r_istore_n dJ6_numberOfTrailingZeros_0f7a4_73 (by decide) rfl ?_
              refine r_iload_n dJ6_numberOfTrailingZeros_0f7a4_74 rfl ?_
              refine r_iload_n dJ6_numberOfTrailingZeros_0f7a4_75 rfl ?_
              refine r_iconst (v := 1) dJ6_numberOfTrailingZeros_0f7a4_76 (by decide) ?_
              refine r_iushr dJ6_numberOfTrailingZeros_0f7a4_77 ?_
              refine r_iadd dJ6_numberOfTrailingZeros_0f7a4_78 ?_
              exact r_iret dJ6_numberOfTrailingZeros_0f7a4_79 ⟨_, rfl, rfl, by decide⟩
          · skip
            exact absurd c52 (by decide)
        · skip
          exact absurd c38 (by decide)
      · skip
        exact absurd c23 (by decide)
    · skip
      exact absurd c9 (by decide)
  · skip
    refine r_iload_n dJ6_numberOfTrailingZeros_0f7a4_8 rfl ?_
    refine r_if_gt 17 dJ6_numberOfTrailingZeros_0f7a4_9 (by decide) (fun c9 => ?_) (fun c9 => ?_)
    · skip
      refine r_iconst (v := 1) dJ6_numberOfTrailingZeros_0f7a4_17 (by decide) ?_
      refine r_istore_n dJ6_numberOfTrailingZeros_0f7a4_18 (by decide) rfl ?_
      refine r_iload_n dJ6_numberOfTrailingZeros_0f7a4_19 rfl ?_
      refine r_ldc_w (v := 65536) dJ6_numberOfTrailingZeros_0f7a4_20 tw562 ?_
      refine r_icmp_le 34 dJ6_numberOfTrailingZeros_0f7a4_23 (by decide) (fun c23 => ?_) (fun c23 => ?_)
      · skip
        refine r_iload_n dJ6_numberOfTrailingZeros_0f7a4_34 rfl ?_
        refine r_sipush (v := 256) dJ6_numberOfTrailingZeros_0f7a4_35 (by decide) ?_
        refine r_icmp_le 49 dJ6_numberOfTrailingZeros_0f7a4_38 (by decide) (fun c38 => ?_) (fun c38 => ?_)
        · skip
          refine r_iload_n dJ6_numberOfTrailingZeros_0f7a4_49 rfl ?_
          refine r_bipush (v := 16) dJ6_numberOfTrailingZeros_0f7a4_50 (by decide) ?_
          refine r_icmp_le 62 dJ6_numberOfTrailingZeros_0f7a4_52 (by decide) (fun c52 => ?_) (fun c52 => ?_)
          · skip
            refine r_iload_n dJ6_numberOfTrailingZeros_0f7a4_62 rfl ?_
            refine r_iconst (v := 4) dJ6_numberOfTrailingZeros_0f7a4_63 (by decide) ?_
            refine r_icmp_le 74 dJ6_numberOfTrailingZeros_0f7a4_64 (by decide) (fun c64 => ?_) (fun c64 => ?_)
            · skip
              exact absurd c64 (by decide)
            · skip
              refine r_iinc dJ6_numberOfTrailingZeros_0f7a4_67 rfl rfl rfl ?_
              refine r_iload_n dJ6_numberOfTrailingZeros_0f7a4_70 rfl ?_
              refine r_iconst (v := 2) dJ6_numberOfTrailingZeros_0f7a4_71 (by decide) ?_
              refine r_iushr dJ6_numberOfTrailingZeros_0f7a4_72 ?_
              refine r_istore_n dJ6_numberOfTrailingZeros_0f7a4_73 (by decide) rfl ?_
              refine r_iload_n dJ6_numberOfTrailingZeros_0f7a4_74 rfl ?_
              refine r_iload_n dJ6_numberOfTrailingZeros_0f7a4_75 rfl ?_
              refine r_iconst (v := 1) dJ6_numberOfTrailingZeros_0f7a4_76 (by decide) ?_
              refine r_iushr dJ6_numberOfTrailingZeros_0f7a4_77 ?_
              refine r_iadd dJ6_numberOfTrailingZeros_0f7a4_78 ?_
              exact r_iret dJ6_numberOfTrailingZeros_0f7a4_79 ⟨_, rfl, rfl, by decide⟩
          · skip
            exact absurd c52 (by decide)
        · skip
          exact absurd c38 (by decide)
      · skip
        exact absurd c23 (by decide)
    · skip
      exact absurd c9 (by decide)
  · skip
    refine r_iload_n dJ6_numberOfTrailingZeros_0f7a4_8 rfl ?_
    refine r_if_gt 17 dJ6_numberOfTrailingZeros_0f7a4_9 (by decide) (fun c9 => ?_) (fun c9 => ?_)
    · skip
      refine r_iconst (v := 1) dJ6_numberOfTrailingZeros_0f7a4_17 (by decide) ?_
      refine r_istore_n dJ6_numberOfTrailingZeros_0f7a4_18 (by decide) rfl ?_
      refine r_iload_n dJ6_numberOfTrailingZeros_0f7a4_19 rfl ?_
      refine r_ldc_w (v := 65536) dJ6_numberOfTrailingZeros_0f7a4_20 tw562 ?_
      refine r_icmp_le 34 dJ6_numberOfTrailingZeros_0f7a4_23 (by decide) (fun c23 => ?_) (fun c23 => ?_)
      · skip
        refine r_iload_n dJ6_numberOfTrailingZeros_0f7a4_34 rfl ?_
        refine r_sipush (v := 256) dJ6_numberOfTrailingZeros_0f7a4_35 (by decide) ?_
        refine r_icmp_le 49 dJ6_numberOfTrailingZeros_0f7a4_38 (by decide) (fun c38 => ?_) (fun c38 => ?_)
        · skip
          refine r_iload_n dJ6_numberOfTrailingZeros_0f7a4_49 rfl ?_
          refine r_bipush (v := 16) dJ6_numberOfTrailingZeros_0f7a4_50 (by decide) ?_
          refine r_icmp_le 62 dJ6_numberOfTrailingZeros_0f7a4_52 (by decide) (fun c52 => ?_) (fun c52 => ?_)
          · skip
            exact absurd c52 (by decide)
          · skip
            refine r_iinc dJ6_numberOfTrailingZeros_0f7a4_55 rfl rfl rfl ?_
            refine r_iload_n dJ6_numberOfTrailingZeros_0f7a4_58 rfl ?_
            refine r_iconst (v := 4) dJ6_numberOfTrailingZeros_0f7a4_59 (by decide) ?_
            refine r_iushr dJ6_numberOfTrailingZeros_0f7a4_60 ?_
            refine r_istore_n dJ6_numberOfTrailingZeros_0f7a4_61 (by decide) rfl ?_
            refine r_iload_n dJ6_numberOfTrailingZeros_0f7a4_62 rfl ?_
            refine r_iconst (v := 4) dJ6_numberOfTrailingZeros_0f7a4_63 (by decide) ?_
            refine r_icmp_le 74 dJ6_numberOfTrailingZeros_0f7a4_64 (by decide) (fun c64 => ?_) (fun c64 => ?_)
            · skip
              refine r_iload_n dJ6_numberOfTrailingZeros_0f7a4_74 rfl ?_
              refine r_iload_n dJ6_numberOfTrailingZeros_0f7a4_75 rfl ?_
              refine r_iconst (v := 1) dJ6_numberOfTrailingZeros_0f7a4_76 (by decide) ?_
              refine r_iushr dJ6_numberOfTrailingZeros_0f7a4_77 ?_
              refine r_iadd dJ6_numberOfTrailingZeros_0f7a4_78 ?_
              exact r_iret dJ6_numberOfTrailingZeros_0f7a4_79 ⟨_, rfl, rfl, by decide⟩
            · skip
              exact absurd c64 (by decide)
        · skip
          exact absurd c38 (by decide)
      · skip
        exact absurd c23 (by decide)
    · skip
      exact absurd c9 (by decide)
  · skip
    refine r_iload_n dJ6_numberOfTrailingZeros_0f7a4_8 rfl ?_
    refine r_if_gt 17 dJ6_numberOfTrailingZeros_0f7a4_9 (by decide) (fun c9 => ?_) (fun c9 => ?_)
    · skip
      refine r_iconst (v := 1) dJ6_numberOfTrailingZeros_0f7a4_17 (by decide) ?_
      refine r_istore_n dJ6_numberOfTrailingZeros_0f7a4_18 (by decide) rfl ?_
      refine r_iload_n dJ6_numberOfTrailingZeros_0f7a4_19 rfl ?_
      refine r_ldc_w (v := 65536) dJ6_numberOfTrailingZeros_0f7a4_20 tw562 ?_
      refine r_icmp_le 34 dJ6_numberOfTrailingZeros_0f7a4_23 (by decide) (fun c23 => ?_) (fun c23 => ?_)
      · skip
        refine r_iload_n dJ6_numberOfTrailingZeros_0f7a4_34 rfl ?_
        refine r_sipush (v := 256) dJ6_numberOfTrailingZeros_0f7a4_35 (by decide) ?_
        refine r_icmp_le 49 dJ6_numberOfTrailingZeros_0f7a4_38 (by decide) (fun c38 => ?_) (fun c38 => ?_)
        · skip
          refine r_iload_n dJ6_numberOfTrailingZeros_0f7a4_49 rfl ?_
          refine r_bipush (v := 16) dJ6_numberOfTrailingZeros_0f7a4_50 (by decide) ?_
          refine r_icmp_le 62 dJ6_numberOfTrailingZeros_0f7a4_52 (by decide) (fun c52 => ?_) (fun c52 => ?_)
          · skip
            exact absurd c52 (by decide)
          · skip
            refine r_iinc dJ6_numberOfTrailingZeros_0f7a4_55 rfl rfl rfl ?_
            refine r_iload_n dJ6_numberOfTrailingZeros_0f7a4_58 rfl ?_
            refine r_iconst (v := 4) dJ6_numberOfTrailingZeros_0f7a4_59 (by decide) ?_
            refine r_iushr dJ6_numberOfTrailingZeros_0f7a4_60 ?_
            refine r_istore_n dJ6_numberOfTrailingZeros_0f7a4_61 (by decide) rfl ?_
            refine r_iload_n dJ6_numberOfTrailingZeros_0f7a4_62 rfl ?_
            refine r_iconst (v := 4) dJ6_numberOfTrailingZeros_0f7a4_63 (by decide) ?_
            refine r_icmp_le 74 dJ6_numberOfTrailingZeros_0f7a4_64 (by decide) (fun c64 => ?_) (fun c64 => ?_)
            · skip
              refine r_iload_n dJ6_numberOfTrailingZeros_0f7a4_74 rfl ?_
              refine r_iload_n dJ6_numberOfTrailingZeros_0f7a4_75 rfl ?_
              refine r_iconst (v := 1) dJ6_numberOfTrailingZeros_0f7a4_76 (by decide) ?_
              refine r_iushr dJ6_numberOfTrailingZeros_0f7a4_77 ?_
              refine r_iadd dJ6_numberOfTrailingZeros_0f7a4_78 ?_
              exact r_iret dJ6_numberOfTrailingZeros_0f7a4_79 ⟨_, rfl, rfl, by decide⟩
            · skip
              exact absurd c64 (by decide)
        · skip
          exact absurd c38 (by decide)
      · skip
        exact absurd c23 (by decide)
    · skip
      exact absurd c9 (by decide)
  · skip
    refine r_iload_n dJ6_numberOfTrailingZeros_0f7a4_8 rfl ?_
    refine r_if_gt 17 dJ6_numberOfTrailingZeros_0f7a4_9 (by decide) (fun c9 => ?_) (fun c9 => ?_)
    · skip
      refine r_iconst (v := 1) dJ6_numberOfTrailingZeros_0f7a4_17 (by decide) ?_
      refine r_istore_n dJ6_numberOfTrailingZeros_0f7a4_18 (by decide) rfl ?_
      refine r_iload_n dJ6_numberOfTrailingZeros_0f7a4_19 rfl ?_
      refine r_ldc_w (v := 65536) dJ6_numberOfTrailingZeros_0f7a4_20 tw562 ?_
      refine r_icmp_le 34 dJ6_numberOfTrailingZeros_0f7a4_23 (by decide) (fun c23 => ?_) (fun c23 => ?_)
      · skip
        refine r_iload_n dJ6_numberOfTrailingZeros_0f7a4_34 rfl ?_
        refine r_sipush (v := 256) dJ6_numberOfTrailingZeros_0f7a4_35 (by decide) ?_
        refine r_icmp_le 49 dJ6_numberOfTrailingZeros_0f7a4_38 (by decide) (fun c38 => ?_) (fun c38 => ?_)
        · skip
          refine r_iload_n dJ6_numberOfTrailingZeros_0f7a4_49 rfl ?_
          refine r_bipush (v := 16) dJ6_numberOfTrailingZeros_0f7a4_50 (by decide) ?_
          refine r_icmp_le 62 dJ6_numberOfTrailingZeros_0f7a4_52 (by decide) (fun c52 => ?_) (fun c52 => ?_)
          · skip
            exact absurd c52 (by decide)
          · skip
            refine r_iinc dJ6_numberOfTrailingZeros_0f7a4_55 rfl rfl rfl ?_
            refine r_iload_n dJ6_numberOfTrailingZeros_0f7a4_58 rfl ?_
            refine r_iconst (v := 4) dJ6_numberOfTrailingZeros_0f7a4_59 (by decide) ?_
            refine r_iushr dJ6_numberOfTrailingZeros_0f7a4_60 ?_
            refine r_istore_n dJ6_numberOfTrailingZeros_0f7a4_61 (by decide) rfl ?_
            refine r_iload_n dJ6_numberOfTrailingZeros_0f7a4_62 rfl ?_
            refine r_iconst (v := 4) dJ6_numberOfTrailingZeros_0f7a4_63 (by decide) ?_
            refine r_icmp_le 74 dJ6_numberOfTrailingZeros_0f7a4_64 (by decide) (fun c64 => ?_) (fun c64 => ?_)
            · skip
              exact absurd c64 (by decide)
            · skip
              refine r_iinc dJ6_numberOfTrailingZeros_0f7a4_67 rfl rfl rfl ?_
              refine r_iload_n dJ6_numberOfTrailingZeros_0f7a4_70 rfl ?_
              refine r_iconst (v := 2) dJ6_numberOfTrailingZeros_0f7a4_71 (by decide) ?_
              refine r_iushr dJ6_numberOfTrailingZeros_0f7a4_72 ?_
              refine r_istore_n dJ6_numberOfTrailingZeros_0f7a4_73 (by decide) rfl ?_
              refine r_iload_n dJ6_numberOfTrailingZeros_0f7a4_74 rfl ?_
              refine r_iload_n dJ6_numberOfTrailingZeros_0f7a4_75 rfl ?_
              refine r_iconst (v := 1) dJ6_numberOfTrailingZeros_0f7a4_76 (by decide) ?_
              refine r_iushr dJ6_numberOfTrailingZeros_0f7a4_77 ?_
              refine r_iadd dJ6_numberOfTrailingZeros_0f7a4_78 ?_
              exact r_iret dJ6_numberOfTrailingZeros_0f7a4_79 ⟨_, rfl, rfl, by decide⟩
        · skip
          exact absurd c38 (by decide)
      · skip
        exact absurd c23 (by decide)
    · skip
      exact absurd c9 (by decide)
def rmX8_netAll : Room := { frames := 0, cells := 0, slots := 0, locals := 0 }
theorem net_step {nt : Rw} {j l : Nat} {v : Int32} {M1 M2 : Mm} {a b : Int32} (hj : j < 8) (hl : l < 8) (ea : a = nI j) (eb : b = nI l) (e : M2 = sI (sI M1 33 j (mI M1 33 j + v)) 33 l (mI (sI M1 33 j (mI M1 33 j + v)) 33 l - v)) (h : ∀ q, q < 8 → mI M1 33 q = nt q) : ∀ q, q < 8 → mI M2 33 q = nt q + ((if a = nI q then v else 0) - (if b = nI q then v else 0)) := by
  intro q hq
  rw [e, mI_sI, mI_sI, va_up_if, va_up_if, va_up_if]
  have e1 : (a = nI q) ↔ q = j := by rw [ea, nI_eq (by omega) (by omega)]; exact ⟨fun h => h.symm, fun h => h.symm⟩
  have e2 : (b = nI q) ↔ q = l := by rw [eb, nI_eq (by omega) (by omega)]; exact ⟨fun h => h.symm, fun h => h.symm⟩
  simp only [e1, e2]
  by_cases h1 : q = l
  · subst h1
    by_cases h2 : q = j
    · subst h2; simp only [if_true]; rw [h q hq]; grind
    · simp only [h2, if_true, if_false]; rw [h q hq]; grind
  · by_cases h2 : q = j
    · subst h2; simp only [h1, if_true, if_false]; rw [h q hq]; grind
    · simp only [h1, h2, if_false]; rw [h q hq]; grind
set_option maxHeartbeats 4000000 in
set_option maxRecDepth 100000 in
theorem lp_net2 (g : Gx) (x : Cx) (M : Mm) (σ : Ab) (δ : Dy) (K : CA σ δ M) : ∀ (n : Nat) (i : Nat) (v : Int32) (M1 : Mm), i ≤ zS σ → zS σ - i < n → v = nI i → Fr [33] [] M M1 → (∀ h, h < 8 → mI M1 33 h = sumF (fun s => (if zo σ s = nI h then zw σ s else 0) - (if yp δ s = nI h then zw σ s else 0)) i) → Vj x g yX8_netAll cX8_netAll 2 none rmX8_netAll (Qm x g rmX8_netAll.cells rmX8_netAll.slots (pV fun M' => Fr [33] [] M M' ∧ ∀ h, h < 8 → mI M' 33 h = netF σ δ h)) 0 0 M1 23 [(0, some (.ref (g.1 + 0))), (1, some (.int v))] [] := by
  intro n
  induction n with
  | zero => intro i v M1 hiS hn hv hF hA; omega
  | succ n ih =>
    intro i v M1 hiS hn hv hF hA
    obtain ⟨hs, w, dw, V, D, D2, D3, D4, D5, D6⟩ := id K
    have hs1 := hs.fr hF
    have V1 := V.fr hs w hF (by decide)
    refine r_iload_n dX8_netAll_23 rfl ?_
    refine r_aload_n dX8_netAll_24 rfl ?_
    refine r_getI flX8_66_8 rfl (hs1.lt (by decide)) (hs1.T 0 rfl) dX8_netAll_25 ?_
    refine r_icmp_ge 80 dX8_netAll_28 (by decide) (fun c28 => ?_) (fun c28 => ?_)
    · skip
      have e0 := lp_ge (n := zS σ) hv V1.2.1 c28 hiS (by have := w.2.1; omega)
      subst e0
      exact r_ret dX8_netAll_80 ⟨rfl, hF, hA⟩
    · skip
      have hi : i < zS σ := lp_lt (n := zS σ) hv V1.2.1 c28 hiS (by have := w.2.1; omega)
      have h8 : i < 8 := Nat.lt_of_lt_of_le hi w.2.1
      obtain ⟨j, hj, ej⟩ := (w.2.2.2 i hi).2.2
      obtain ⟨l, hl, el⟩ := dw.2.1 i hi
      have E1 : mI M1 10 i = zo σ i := (V1.2.2.2 i hi).2
      have E2 : mI M1 9 i = zw σ i := (V1.2.2.2 i hi).1
      have E3 : mI M1 12 i = yp δ i := (congrFun (hF.2.1 12 (by simp)) i).trans (D.1 i hi)
      refine r_aload_n dX8_netAll_31 rfl ?_
      refine r_getR flX8_53_8 rfl (hs1.lt (by decide)) (hs1.T 0 rfl) (hs1.R 0 9 rfl) dX8_netAll_32 ?_
      refine r_aload_n dX8_netAll_35 rfl ?_
      refine r_getR flX8_33_8 rfl (hs1.lt (by decide)) (hs1.T 0 rfl) (hs1.R 0 4 rfl) dX8_netAll_36 ?_
      refine r_iload_n dX8_netAll_39 rfl ?_
      refine r_ial (hs1.T 10 rfl) (hs1.lt (by decide)) (ix_of hv h8 (by decide)) dX8_netAll_40 ?_
      refine r_dup2 dX8_netAll_41 rfl rfl ?_
      refine r_ial (hs1.T 33 rfl) (hs1.lt (by decide)) (ix_of (E1.trans ej) hj (by decide)) dX8_netAll_42 ?_
      refine r_aload_n dX8_netAll_43 rfl ?_
      refine r_getR flX8_29_8 rfl (hs1.lt (by decide)) (hs1.T 0 rfl) (hs1.R 0 3 rfl) dX8_netAll_44 ?_
      refine r_iload_n dX8_netAll_47 rfl ?_
      refine r_ial (hs1.T 9 rfl) (hs1.lt (by decide)) (ix_of hv h8 (by decide)) dX8_netAll_48 ?_
      refine r_iadd dX8_netAll_49 ?_
      refine r_ias (hs1.T 33 rfl) (hs1.lt (by decide)) (ix_of (E1.trans ej) hj (by decide)) dX8_netAll_50 ?_
      refine r_aload_n dX8_netAll_51 rfl ?_
      refine r_getR flX8_53_8 rfl (hs1.lt (by decide)) (hs1.T 0 rfl) (hs1.R 0 9 rfl) dX8_netAll_52 ?_
      refine r_aload_n dX8_netAll_55 rfl ?_
      refine r_getR flX8_39_8 rfl (hs1.lt (by decide)) (hs1.T 0 rfl) (hs1.R 0 5 rfl) dX8_netAll_56 ?_
      refine r_getR flX8_166_1 rfl (hs1.lt (by decide)) (hs1.T 11 rfl) (hs1.R 11 0 rfl) dX8_netAll_59 ?_
      refine r_iload_n dX8_netAll_62 rfl ?_
      refine r_ial (hs1.T 12 rfl) (hs1.lt (by decide)) (ix_of hv h8 (by decide)) dX8_netAll_63 ?_
      refine r_dup2 dX8_netAll_64 rfl rfl ?_
      refine r_ial (hs1.T 33 rfl) (hs1.lt (by decide)) (ix_of (E3.trans el) hl (by decide)) dX8_netAll_65 ?_
      refine r_aload_n dX8_netAll_66 rfl ?_
      refine r_getR flX8_29_8 rfl (hs1.lt (by decide)) (hs1.T 0 rfl) (hs1.R 0 3 rfl) dX8_netAll_67 ?_
      refine r_iload_n dX8_netAll_70 rfl ?_
      refine r_ial (hs1.T 9 rfl) (hs1.lt (by decide)) (ix_of hv h8 (by decide)) dX8_netAll_71 ?_
      refine r_isub dX8_netAll_72 ?_
      refine r_ias (hs1.T 33 rfl) (hs1.lt (by decide)) (ix_of (E3.trans el) hl (by decide)) dX8_netAll_73 ?_
      refine r_iinc dX8_netAll_74 rfl rfl rfl ?_
      refine r_goto 23 dX8_netAll_77 (by decide) ?_
      exact r_lv (lvSc rfl (lvSc rfl lvS0)) (ih (i + 1) _ _ (by omega) (by omega) (nI_inc hv) ((hF.sI (by simp)).sI (by simp)) (fun q hq => by
        rw [sumF, ← hA q hq, ← E2]
        have := net_step (M1 := M1) (v := mI M1 9 i) hj hl ej el rfl (fun q hq => rfl) q hq
        exact this))
set_option maxHeartbeats 4000000 in
set_option maxRecDepth 100000 in
theorem lp_net1 (g : Gx) (x : Cx) (M : Mm) (σ : Ab) (δ : Dy) (K : CA σ δ M) : ∀ (n : Nat) (i : Nat) (v : Int32) (M1 : Mm), i ≤ 8 → 8 - i < n → v = nI i → Fr [33] [] M M1 → (∀ h, h < i → mI M1 33 h = 0) → Vj x g yX8_netAll cX8_netAll 2 none rmX8_netAll (Qm x g rmX8_netAll.cells rmX8_netAll.slots (pV fun M' => Fr [33] [] M M' ∧ ∀ h, h < 8 → mI M' 33 h = netF σ δ h)) 0 0 M1 2 [(0, some (.ref (g.1 + 0))), (1, some (.int v))] [] := by
  intro n
  induction n with
  | zero => intro i v M1 hi8 hn hv hF hA; omega
  | succ n ih =>
    intro i v M1 hi8 hn hv hF hA
    obtain ⟨hs, w, dw, V, D, D2, D3, D4, D5, D6⟩ := id K
    have hs1 := hs.fr hF
    refine r_iload_n dX8_netAll_2 rfl ?_
    refine r_bipush (v := 8) dX8_netAll_3 (by decide) ?_
    refine r_icmp_ge 21 dX8_netAll_5 (by decide) (fun c5 => ?_) (fun c5 => ?_)
    · skip
      have e0 := lp_ge (n := 8) hv rfl c5 hi8 (by decide)
      subst e0
      refine r_iconst (v := 0) dX8_netAll_21 (by decide) ?_
      refine r_istore_n dX8_netAll_22 (by decide) rfl ?_
      exact r_lv (lvSc rfl (lvSc rfl lvS0)) (lp_net2 g x M σ δ K (zS σ + 1) 0 0 M1 (by omega) (by omega) rfl hF hA)
    · skip
      have hi : i < 8 := lp_lt (n := 8) hv rfl c5 hi8 (by decide)
      refine r_aload_n dX8_netAll_8 rfl ?_
      refine r_getR flX8_53_8 rfl (hs1.lt (by decide)) (hs1.T 0 rfl) (hs1.R 0 9 rfl) dX8_netAll_9 ?_
      refine r_iload_n dX8_netAll_12 rfl ?_
      refine r_iconst (v := 0) dX8_netAll_13 (by decide) ?_
      refine r_ias (hs1.T 33 rfl) (hs1.lt (by decide)) (ix_of hv hi (by decide)) dX8_netAll_14 ?_
      refine r_iinc dX8_netAll_15 rfl rfl rfl ?_
      refine r_goto 2 dX8_netAll_18 (by decide) ?_
      exact r_lv (lvSc rfl (lvSc rfl lvS0)) (ih (i + 1) _ _ (by omega) (by omega) (nI_inc hv) (hF.sI (by simp)) (fun q hq => by rw [mI_sI, va_up_if]; split; rfl; exact hA q (by omega)))
set_option maxHeartbeats 4000000 in
set_option maxRecDepth 100000 in
theorem kX8_netAll (g : Gx) (M : Mm) (σ : Ab) (δ : Dy) (K : CA σ δ M) : Ct g yX8_netAll cX8_netAll 2 none rmX8_netAll [.ref (g.1 + 0)] M (pV fun M' => Fr [33] [] M M' ∧ ∀ h, h < 8 → mI M' 33 h = netF σ δ h) := by
  obtain ⟨hs, w, dw, V, D, D2, D3, D4, D5, D6⟩ := id K
  refine Ct.of rfl (Nat.le_of_ble_eq_true rfl) (fun x => ?_)
  refine r_iconst (v := 0) dX8_netAll_0 (by decide) ?_
  refine r_istore_n dX8_netAll_1 (by decide) rfl ?_
  exact r_lv (lvSc rfl (lvSc rfl lvS0)) (lp_net1 g x M σ δ K 9 0 0 M (by omega) (by omega) rfl (Fr.rf _ _ _) (fun q hq => by omega))
def rmX8_mostGroupsWithOneLess : Room := { frames := 1, cells := 0, slots := 0, locals := 21 }
set_option maxHeartbeats 4000000 in
set_option maxRecDepth 100000 in
theorem lp_mg (g : Gx) (x : Cx) (M : Mm) (hs : St M) (k : Nat) (hk : k < 256) (h1 : 1 ≤ k) (f : Nat → Nat) (hf : ∀ q, q < k → mI M 35 q = nI (f q) ∧ f q ≤ q) : ∀ (n : Nat) (i : Nat) (v b : Int32) (mx : Nat), i ≤ 8 → 8 - i < n → v = nI i → b = nI mx → mx < k → (∀ q, q < i → k.testBit q = true → f (k ^^^ 2 ^ q) ≤ mx) → (mx = 0 ∨ ∃ q, q < 8 ∧ k.testBit q = true ∧ mx = f (k ^^^ 2 ^ q)) → Vj x g yX8_mostGroupsWithOneLess cX8_mostGroupsWithOneLess 4 (Option.some FieldType.int) rmX8_mostGroupsWithOneLess (Qm x g rmX8_mostGroupsWithOneLess.cells rmX8_mostGroupsWithOneLess.slots (pI fun r M' => M' = M ∧ ∃ mx, r = nI mx ∧ mx < k ∧ (∀ q, q < 8 → k.testBit q = true → f (k ^^^ 2 ^ q) ≤ mx) ∧ (mx = 0 ∨ ∃ q, q < 8 ∧ k.testBit q = true ∧ mx = f (k ^^^ 2 ^ q)))) 0 0 M 4 [(0, some (.ref (g.1 + 0))), (1, some (.int (nI k))), (2, some (.int b)), (3, some (.int v))] [] := by
  intro n
  induction n with
  | zero => intro i v b mx hi8 hn hv hb0 hm ha hb; omega
  | succ n ih =>
    intro i v b mx hi8 hn hv hb0 hm ha hb
    subst hb0
    refine r_iload_n dX8_mostGroupsWithOneLess_4 rfl ?_
    refine r_bipush (v := 8) dX8_mostGroupsWithOneLess_5 (by decide) ?_
    refine r_icmp_ge 40 dX8_mostGroupsWithOneLess_7 (by decide) (fun c7 => ?_) (fun c7 => ?_)
    · skip
      have e0 := lp_ge (n := 8) hv rfl c7 hi8 (by decide)
      subst e0
      refine r_iload_n dX8_mostGroupsWithOneLess_40 rfl ?_
      exact r_iret dX8_mostGroupsWithOneLess_41 ⟨_, rfl, rfl, mx, rfl, hm, ha, hb⟩
    · skip
      have hi : i < 8 := lp_lt (n := 8) hv rfl c7 hi8 (by decide)
      refine r_iload_n dX8_mostGroupsWithOneLess_10 rfl ?_
      refine r_iload_n dX8_mostGroupsWithOneLess_11 rfl ?_
      refine r_ishr dX8_mostGroupsWithOneLess_12 ?_
      refine r_iconst (v := 1) dX8_mostGroupsWithOneLess_13 (by decide) ?_
      refine r_iand dX8_mostGroupsWithOneLess_14 ?_
      refine r_iconst (v := 1) dX8_mostGroupsWithOneLess_15 (by decide) ?_
      refine r_icmp_ne 34 dX8_mostGroupsWithOneLess_16 (by decide) (fun c16 => ?_) (fun c16 => ?_)
      · skip
        refine r_iinc dX8_mostGroupsWithOneLess_34 rfl rfl rfl ?_
        refine r_goto 4 dX8_mostGroupsWithOneLess_37 (by decide) ?_
        exact r_lv (lvSc rfl (lvSc rfl (lvSc rfl (lvSc rfl lvS0)))) (ih (i + 1) _ _ mx (by omega) (by omega) (nI_inc hv) rfl hm (fun q hq hb => by
          rcases Nat.lt_or_ge q i with z | z
          · exact ha q z hb
          · exfalso; rw [show q = i by omega] at hb; rw [hv] at c16; exact c16 ((m_bit k hk i hi).mpr hb)) hb)
      · skip
        have hbit0 : k.testBit i = true := by rw [hv] at c16; exact (m_bit k hk i hi).mp c16
        have hlt0 := m_lt k hk i hi hbit0
        refine r_iload_n dX8_mostGroupsWithOneLess_19 rfl ?_
        refine r_aload_n dX8_mostGroupsWithOneLess_20 rfl ?_
        refine r_getR flX8_59_8 rfl (hs.lt (by decide)) (hs.T 0 rfl) (hs.R 0 11 rfl) dX8_mostGroupsWithOneLess_21 ?_
        refine r_iload_n dX8_mostGroupsWithOneLess_24 rfl ?_
        refine r_iconst (v := 1) dX8_mostGroupsWithOneLess_25 (by decide) ?_
        refine r_iload_n dX8_mostGroupsWithOneLess_26 rfl ?_
        refine r_ishl dX8_mostGroupsWithOneLess_27 ?_
        refine r_ixor dX8_mostGroupsWithOneLess_28 ?_
        refine r_ial (hs.T 35 rfl) (hs.lt (by decide)) (ix_of (by rw [hv]; exact m_xor k hk i hi) (by omega) (by decide)) dX8_mostGroupsWithOneLess_29 ?_
        refine r_max tw567 tw477 tw63 tw478 (Nat.le_of_ble_eq_true rfl) (Nat.le_of_ble_eq_true rfl) (Nat.le_of_ble_eq_true rfl) (Nat.le_of_ble_eq_true rfl) dX8_mostGroupsWithOneLess_30 ?_
        refine r_istore_n dX8_mostGroupsWithOneLess_33 (by decide) rfl ?_
        refine r_iinc dX8_mostGroupsWithOneLess_34 rfl rfl rfl ?_
        refine r_goto 4 dX8_mostGroupsWithOneLess_37 (by decide) ?_
        have hbit : k.testBit i = true := by rw [hv] at c16; exact (m_bit k hk i hi).mp c16
        have hlt := m_lt k hk i hi hbit
        have hle := (hf _ hlt).2
        rw [(hf _ hlt).1]
        by_cases hc : mx < f (k ^^^ 2 ^ i)
        · rw [if_pos (nI_lt hc (by omega))]
          exact r_lv (lvSc rfl (lvSc rfl (lvSc rfl (lvSc rfl lvS0)))) (ih (i + 1) _ _ (f (k ^^^ 2 ^ i)) (by omega) (by omega) (nI_inc hv) rfl (by omega) (fun q hq hb => by
            rcases Nat.lt_or_ge q i with z | z
            · exact Nat.le_of_lt (Nat.lt_of_le_of_lt (ha q z hb) hc)
            · rw [show q = i by omega]; exact Nat.le_refl _) (Or.inr ⟨i, hi, hbit, rfl⟩))
        · rw [if_neg (nI_nlt (by omega) (by omega))]
          exact r_lv (lvSc rfl (lvSc rfl (lvSc rfl (lvSc rfl lvS0)))) (ih (i + 1) _ _ mx (by omega) (by omega) (nI_inc hv) rfl hm (fun q hq hb => by
            rcases Nat.lt_or_ge q i with z | z
            · exact ha q z hb
            · rw [show q = i by omega]; omega) hb)
set_option maxHeartbeats 4000000 in
set_option maxRecDepth 100000 in
theorem kX8_mostGroupsWithOneLess (g : Gx) (M : Mm) (hs : St M) (k : Nat) (hk : k < 256) (h1 : 1 ≤ k) (f : Nat → Nat) (hf : ∀ q, q < k → mI M 35 q = nI (f q) ∧ f q ≤ q) : Ct g yX8_mostGroupsWithOneLess cX8_mostGroupsWithOneLess 4 (Option.some FieldType.int) rmX8_mostGroupsWithOneLess [.ref (g.1 + 0), .int (nI k)] M (pI fun r M' => M' = M ∧ ∃ mx, r = nI mx ∧ mx < k ∧ (∀ q, q < 8 → k.testBit q = true → f (k ^^^ 2 ^ q) ≤ mx) ∧ (mx = 0 ∨ ∃ q, q < 8 ∧ k.testBit q = true ∧ mx = f (k ^^^ 2 ^ q))) := by
  refine Ct.of rfl (Nat.le_of_ble_eq_true rfl) (fun x => ?_)
  refine r_iconst (v := 0) dX8_mostGroupsWithOneLess_0 (by decide) ?_
  refine r_istore_n dX8_mostGroupsWithOneLess_1 (by decide) rfl ?_
  refine r_iconst (v := 0) dX8_mostGroupsWithOneLess_2 (by decide) ?_
  refine r_istore_n dX8_mostGroupsWithOneLess_3 (by decide) rfl ?_
  exact r_lv (lvSc rfl (lvSc rfl (lvSc rfl (lvSc rfl lvS0)))) (lp_mg g x M hs k hk h1 f hf 9 0 0 0 0 (by omega) (by omega) rfl rfl (by omega) (fun q hq => by omega) (Or.inl rfl))
def rmX8_fewest : Room := { frames := 2, cells := 0, slots := 0, locals := 44 }
set_option maxHeartbeats 4000000 in
set_option maxRecDepth 100000 in
theorem lp_few (g : Gx) (x : Cx) (M : Mm) (σ : Ab) (δ : Dy) (K : CA σ δ M) : ∀ (n : Nat) (i : Nat) (v : Int32) (M1 : Mm) (f : Nat → Nat), 1 ≤ i → i ≤ 256 → 256 - i < n → v = nI i → Fr [33, 34, 35] [] M M1 → FM (netF σ δ) f i → (∀ q, q < 8 → mI M1 33 q = netF σ δ q) → (∀ q, q < i → mI M1 34 q = nsF (netF σ δ) q) → (∀ q, q < i → mI M1 35 q = nI (f q) ∧ f q ≤ q) → Vj x g yX8_fewest cX8_fewest 2 (Option.some FieldType.int) rmX8_fewest (Qm x g rmX8_fewest.cells rmX8_fewest.slots (pI fun r M' => Fr [33, 34, 35] [] M M' ∧ fewP σ δ r)) 0 0 M1 20 [(0, some (.ref (g.1 + 0))), (1, some (.int v))] [] := by
  intro n
  induction n with
  | zero => intro i v M1 f hi1 hi8 hn hv hF hFM hT hS hG; omega
  | succ n ih =>
    intro i v M1 f hi1 hi8 hn hv hF hFM hT hS hG
    obtain ⟨hs, w, dw, V, D, D2, D3, D4, D5, D6⟩ := id K
    have hs1 := hs.fr hF
    subst hv
    have hv : nI i = nI i := rfl
    refine r_iload_n dX8_fewest_20 rfl ?_
    refine r_sipush (v := 256) dX8_fewest_21 (by decide) ?_
    refine r_icmp_ge 85 dX8_fewest_24 (by decide) (fun c24 => ?_) (fun c24 => ?_)
    · skip
      have e0 := lp_ge (n := 256) hv rfl c24 hi8 (by decide)
      subst e0
      refine r_bipush (v := 8) dX8_fewest_85 (by decide) ?_
      refine r_aload_n dX8_fewest_87 rfl ?_
      refine r_getR flX8_59_8 rfl (hs1.lt (by decide)) (hs1.T 0 rfl) (hs1.R 0 11 rfl) dX8_fewest_88 ?_
      refine r_sipush (v := 255) dX8_fewest_91 (by decide) ?_
      refine r_ial (hs1.T 35 rfl) (hs1.lt (by decide)) (ix_of (j := 255) rfl (by decide) (by decide)) dX8_fewest_94 ?_
      refine r_isub dX8_fewest_95 ?_
      exact r_iret dX8_fewest_96 ⟨_, rfl, hF, f, hFM, by rw [(hG 255 (by decide)).1]⟩
    · skip
      have hi : i < 256 := lp_lt (n := 256) hv rfl c24 hi8 (by decide)
      have hz := m_ntz i hi hi1
      have hl1 := m_and1lt i hi hi1
      refine r_aload_n dX8_fewest_27 rfl ?_
      refine r_getR flX8_56_8 rfl (hs1.lt (by decide)) (hs1.T 0 rfl) (hs1.R 0 10 rfl) dX8_fewest_28 ?_
      refine r_iload_n dX8_fewest_31 rfl ?_
      refine r_aload_n dX8_fewest_32 rfl ?_
      refine r_getR flX8_56_8 rfl (hs1.lt (by decide)) (hs1.T 0 rfl) (hs1.R 0 10 rfl) dX8_fewest_33 ?_
      refine r_iload_n dX8_fewest_36 rfl ?_
      refine r_iload_n dX8_fewest_37 rfl ?_
      refine r_iconst (v := 1) dX8_fewest_38 (by decide) ?_
      refine r_isub dX8_fewest_39 ?_
      refine r_iand dX8_fewest_40 ?_
      refine r_ial (hs1.T 34 rfl) (hs1.lt (by decide)) (ix_of (m_and1 i hi hi1) (by omega) (by decide)) dX8_fewest_41 ?_
      refine r_aload_n dX8_fewest_42 rfl ?_
      refine r_getR flX8_53_8 rfl (hs1.lt (by decide)) (hs1.T 0 rfl) (hs1.R 0 9 rfl) dX8_fewest_43 ?_
      refine r_iload_n dX8_fewest_46 rfl ?_
      refine r_cS1i csX8_223 (kJ6_ntz g M1 i hi hi1) hs1.pos ⟨Nat.le_of_ble_eq_true rfl, Nat.le_of_ble_eq_true rfl⟩ (Nat.le_of_ble_eq_true rfl) ⟨Nat.le_of_ble_eq_true rfl, Nat.le_of_ble_eq_true rfl⟩ dX8_fewest_47 (fun r47 M47 h47 => ?_)
      obtain ⟨e47, h47⟩ := h47
      replace e47 := e47.symm
      subst e47
      refine r_ial (hs1.T 33 rfl) (hs1.lt (by decide)) (ix_of h47 hz.1 (by decide)) dX8_fewest_50 ?_
      refine r_iadd dX8_fewest_51 ?_
      refine r_ias (hs1.T 34 rfl) (hs1.lt (by decide)) (ix_nI hi (by decide)) dX8_fewest_52 ?_
      refine r_aload_n dX8_fewest_53 rfl ?_
      refine r_getR flX8_59_8 rfl (hs1.lt (by decide)) (hs1.T 0 rfl) (hs1.R 0 11 rfl) dX8_fewest_54 ?_
      refine r_iload_n dX8_fewest_57 rfl ?_
      refine r_aload_n dX8_fewest_58 rfl ?_
      refine r_iload_n dX8_fewest_59 rfl ?_
      refine r_cV1i cvX8_229 (kX8_mostGroupsWithOneLess g (sI M1 34 i (mI M1 34 (i &&& (i - 1)) + mI M1 33 (ntzN i))) hs1 i hi hi1 f (fun q hq => ⟨(hG q hq).1, (hG q hq).2⟩)) (hs1.lt (by decide)) (hs1.T 0 rfl) ⟨Nat.le_of_ble_eq_true rfl, Nat.le_of_ble_eq_true rfl⟩ (Nat.le_of_ble_eq_true rfl) ⟨Nat.le_of_ble_eq_true rfl, Nat.le_of_ble_eq_true rfl⟩ dX8_fewest_60 (fun r60 M60 h60 => ?_)
      obtain ⟨e60, h60⟩ := h60
      replace e60 := e60.symm
      subst e60
      obtain ⟨mx, hmx, hm1, hm2, hm3⟩ := h60
      have eN : mI M1 34 (i &&& (i - 1)) + mI M1 33 (ntzN i) = nsF (netF σ δ) i := by rw [hS _ hl1, hT _ hz.1, ← nsF_step hi hi1]
      refine r_dia (P := fun u => u = nI (one0 (nsF (netF σ δ) i))) 77 (fun u hu => ?_) (fun hJ77 => ?_)
      · skip
        refine r_iadd dX8_fewest_77 ?_
        refine r_ias (hs1.T 35 rfl) (hs1.lt (by decide)) (ix_nI hi (by decide)) dX8_fewest_78 ?_
        refine r_iinc dX8_fewest_79 rfl rfl rfl ?_
        refine r_goto 20 dX8_fewest_82 (by decide) ?_
        subst hmx
        subst hu
        rw [nI_add]
        exact r_lv (lvSc rfl (lvSc rfl lvS0)) (ih (i + 1) _ _ _ (by omega) (by omega) (by omega) (nI_inc rfl) ((hF.sI (by simp)).sI (by simp)) (hFM.step hi hi1 hm1 hm2 hm3) (fun q hq => by rw [mI_sI_ne (by decide), mI_sI_ne (by decide)]; exact hT q hq) (fun q hq => by
          rw [mI_sI_ne (by decide), mI_sI, va_up_if]
          split
          · next e => rw [e]; exact eN
          · exact hS q (by omega)) (fun q hq => by
          rw [mI_sI, mI_sI_ne (by decide), va_up_if, va_up_if]
          split
          · next e => exact ⟨rfl, by unfold one0; split <;> omega⟩
          · exact hG q (by omega)))
      · skip
        refine r_aload_n dX8_fewest_63 rfl ?_
        refine r_getR flX8_56_8 rfl (hs1.lt (by decide)) (hs1.T 0 rfl) (hs1.R 0 10 rfl) dX8_fewest_64 ?_
        refine r_iload_n dX8_fewest_67 rfl ?_
        refine r_ial (hs1.T 34 rfl) (hs1.lt (by decide)) (ix_nI hi (by decide)) dX8_fewest_68 ?_
        refine r_if_ne 76 dX8_fewest_69 (by decide) (fun c69 => ?_) (fun c69 => ?_)
        · skip
          refine r_iconst (v := 0) dX8_fewest_76 (by decide) ?_
          exact hJ77 _ (by rw [mI_sI, va_up_self, eN] at c69; simp [one0, c69]; rfl)
        · skip
          refine r_iconst (v := 1) dX8_fewest_72 (by decide) ?_
          refine r_goto 77 dX8_fewest_73 (by decide) ?_
          exact hJ77 _ (by rw [mI_sI, va_up_self, eN] at c69; simp [one0, c69]; rfl)
theorem nsF_0 (nt : Nat → Int32) : nsF nt 0 = 0 := by simp [nsF, sumF]
set_option maxHeartbeats 4000000 in
set_option maxRecDepth 100000 in
theorem kX8_fewest (g : Gx) (M : Mm) (σ : Ab) (δ : Dy) (K : CA σ δ M) : Ct g yX8_fewest cX8_fewest 2 (Option.some FieldType.int) rmX8_fewest [.ref (g.1 + 0)] M (pI fun r M' => Fr [33, 34, 35] [] M M' ∧ fewP σ δ r) := by
  obtain ⟨hs, w, dw, V, D, D2, D3, D4, D5, D6⟩ := id K
  refine Ct.of rfl (Nat.le_of_ble_eq_true rfl) (fun x => ?_)
  refine r_aload_n dX8_fewest_0 rfl ?_
  refine r_cV0v cvX8_220 (kX8_netAll g M σ δ K) (hs.lt (by decide)) (hs.T 0 rfl) ⟨Nat.le_of_ble_eq_true rfl, Nat.le_of_ble_eq_true rfl⟩ (Nat.le_of_ble_eq_true rfl) ⟨Nat.le_of_ble_eq_true rfl, Nat.le_of_ble_eq_true rfl⟩ dX8_fewest_1 (fun M1 h1 => ?_)
  obtain ⟨hF, hT⟩ := h1
  refine r_aload_n dX8_fewest_4 rfl ?_
  refine r_getR flX8_56_8 rfl ((hs.fr hF).lt (by decide)) ((hs.fr hF).T 0 rfl) ((hs.fr hF).R 0 10 rfl) dX8_fewest_5 ?_
  refine r_iconst (v := 0) dX8_fewest_8 (by decide) ?_
  refine r_iconst (v := 0) dX8_fewest_9 (by decide) ?_
  refine r_ias ((hs.fr hF).T 34 rfl) ((hs.fr hF).lt (by decide)) (ix_of (j := 0) rfl (by decide) (by decide)) dX8_fewest_10 ?_
  refine r_aload_n dX8_fewest_11 rfl ?_
  refine r_getR flX8_59_8 rfl ((hs.fr hF).lt (by decide)) ((hs.fr hF).T 0 rfl) ((hs.fr hF).R 0 11 rfl) dX8_fewest_12 ?_
  refine r_iconst (v := 0) dX8_fewest_15 (by decide) ?_
  refine r_iconst (v := 0) dX8_fewest_16 (by decide) ?_
  refine r_ias ((hs.fr hF).T 35 rfl) ((hs.fr hF).lt (by decide)) (ix_of (j := 0) rfl (by decide) (by decide)) dX8_fewest_17 ?_
  refine r_iconst (v := 1) dX8_fewest_18 (by decide) ?_
  refine r_istore_n dX8_fewest_19 (by decide) rfl ?_
  exact r_lv (lvSc rfl (lvSc rfl lvS0)) (lp_few g x M σ δ K 257 1 1 _ (fun _ => 0) (by omega) (by omega) (by omega) rfl (((hF.mono (by simp) (by simp)).sI (by simp)).sI (by simp)) ⟨rfl, fun k h1 h2 => by omega⟩ (fun q hq => by rw [mI_sI_ne (by decide), mI_sI_ne (by decide)]; exact hT q hq) (fun q hq => by rw [show q = 0 by omega, mI_sI_ne (by decide), mI_sI, va_up_self, nsF_0]) (fun q hq => by rw [show q = 0 by omega, mI_sI, va_up_self]; exact ⟨rfl, Nat.le_refl 0⟩))
