section ThPut
variable {x : Cx} {g : Gx} {y : MethodName} {cc : ByteArray} {nL : Nat} {ret : Option FieldType} {R : Room} {Q : State → Prop} {k sl : Nat} {M : Mm} {pc : Nat} {lv : Lv} {rest : List Value}
theorem r_putTh {a n idx : Nat} {v : Int32} (f7 : FP y.cls idx 7 n true .int) (f6 : FP y.cls idx 6 n true .int) (f0 : FP y.cls idx 0 n true .int) (f2 : FP y.cls idx 2 n true .int) (f3 : FP y.cls idx 3 n true .int) (hn : n < 3) (ha : a < mN M) (ht : isTh (mT M a)) (hin : y.name = "<init>") (d : decode cc pc = .ok (.putfield idx, 3)) (kk : Vj x g y cc nL ret R Q k sl (sI M a n v) (pc + 3) lv rest) : Vj x g y cc nL ret R Q k sl M pc lv (.int v :: .ref (g.1 + a) :: rest) := by
  have hk : ∀ ci, ci = 7 ∨ ci = 6 ∨ ci = 0 ∨ ci = 2 ∨ ci = 3 → (fkd ci)[n]? = some 0 := by
    intro ci hci
    rcases hci with h | h | h | h | h <;> rw [h] <;> (rcases (show n = 0 ∨ n = 1 ∨ n = 2 by omega) with h | h | h <;> rw [h] <;> rfl)
  rcases ht with h | h | h | h | h
  · exact r_putIF f7 (hk 7 (by simp)) ha h hin rfl rfl d kk
  · exact r_putIF f6 (hk 6 (by simp)) ha h hin rfl rfl d kk
  · exact r_putIF f0 (hk 0 (by simp)) ha h hin rfl rfl d kk
  · exact r_putIF f2 (hk 2 (by simp)) ha h hin rfl rfl d kk
  · exact r_putIF f3 (hk 3 (by simp)) ha h hin rfl rfl d kk
end ThPut
def thM (M : Mm) (a : Nat) (p r f : Int32) : Mm := sI (sI (sI M a 0 p) a 1 r) a 2 f
def rmX7_init : Room := { frames := 1, cells := 0, slots := 0, locals := 20 }
set_option maxHeartbeats 4000000 in
set_option maxRecDepth 100000 in
theorem kX7_init (g : Gx) (M : Mm) (a : Nat) (ha : a < mN M) (ht : isTh (mT M a)) (p r f : Int32) : Ct g yX7_init cX7_init 4 none rmX7_init [.ref (g.1 + a), .int p, .int r, .int f] M (pV fun M' => M' = thM M a p r f) := by
  refine Ct.of rfl (Nat.le_of_ble_eq_true rfl) (fun x => ?_)
  refine r_aload_n dX7_init_0 rfl ?_
  refine r_objInit tw167 tw71 tw72 (Nat.le_of_ble_eq_true rfl) (Nat.le_of_ble_eq_true rfl) dX7_init_1 ?_
  refine r_aload_n dX7_init_4 rfl ?_
  refine r_iload_n dX7_init_5 rfl ?_
  refine r_putTh fpX7_7_7 fpX7_7_6 fpX7_7_0 fpX7_7_2 fpX7_7_3 (by decide) ha ht rfl dX7_init_6 ?_
  refine r_aload_n dX7_init_9 rfl ?_
  refine r_iload_n dX7_init_10 rfl ?_
  refine r_putTh fpX7_13_7 fpX7_13_6 fpX7_13_0 fpX7_13_2 fpX7_13_3 (by decide) ha ht rfl dX7_init_11 ?_
  refine r_aload_n dX7_init_14 rfl ?_
  refine r_iload_n dX7_init_15 rfl ?_
  refine r_putTh fpX7_16_7 fpX7_16_6 fpX7_16_0 fpX7_16_2 fpX7_16_3 (by decide) ha ht rfl dX7_init_16 ?_
  exact r_ret dX7_init_19 ⟨rfl, rfl⟩
def rmX6_init : Room := { frames := 2, cells := 0, slots := 0, locals := 43 }
set_option maxHeartbeats 4000000 in
set_option maxRecDepth 100000 in
theorem kX6_init (g : Gx) (M : Mm) (a : Nat) (ha : a < mN M) (ht : isTh (mT M a)) (p r f : Int32) : Ct g yX6_init cX6_init 4 none rmX6_init [.ref (g.1 + a), .int p, .int r, .int f] M (pV fun M' => M' = thM M a p r f) := by
  refine Ct.of rfl (Nat.le_of_ble_eq_true rfl) (fun x => ?_)
  refine r_aload_n dX6_init_0 rfl ?_
  refine r_iload_n dX6_init_1 rfl ?_
  refine r_iload_n dX6_init_2 rfl ?_
  refine r_iload_n dX6_init_3 rfl ?_
  refine r_cI3v ciX6_1 (kX7_init g M a ha ht p r f) (Nat.lt_of_le_of_lt (Nat.zero_le _) ha) ⟨Nat.le_of_ble_eq_true rfl, Nat.le_of_ble_eq_true rfl⟩ (Nat.le_of_ble_eq_true rfl) ⟨Nat.le_of_ble_eq_true rfl, Nat.le_of_ble_eq_true rfl⟩ dX6_init_4 (fun M4 h4 => ?_)
  exact r_ret dX6_init_7 ⟨rfl, h4⟩
def rmX0_init : Room := { frames := 2, cells := 0, slots := 0, locals := 43 }
set_option maxHeartbeats 4000000 in
set_option maxRecDepth 100000 in
theorem kX0_init (g : Gx) (M : Mm) (a : Nat) (ha : a < mN M) (ht : isTh (mT M a)) (p r f : Int32) : Ct g yX0_init cX0_init 4 none rmX0_init [.ref (g.1 + a), .int p, .int r, .int f] M (pV fun M' => M' = thM M a p r f) := by
  refine Ct.of rfl (Nat.le_of_ble_eq_true rfl) (fun x => ?_)
  refine r_aload_n dX0_init_0 rfl ?_
  refine r_iload_n dX0_init_1 rfl ?_
  refine r_iload_n dX0_init_2 rfl ?_
  refine r_iload_n dX0_init_3 rfl ?_
  refine r_cI3v ciX0_1 (kX7_init g M a ha ht p r f) (Nat.lt_of_le_of_lt (Nat.zero_le _) ha) ⟨Nat.le_of_ble_eq_true rfl, Nat.le_of_ble_eq_true rfl⟩ (Nat.le_of_ble_eq_true rfl) ⟨Nat.le_of_ble_eq_true rfl, Nat.le_of_ble_eq_true rfl⟩ dX0_init_4 (fun M4 h4 => ?_)
  exact r_ret dX0_init_7 ⟨rfl, h4⟩
def rmX2_init : Room := { frames := 2, cells := 0, slots := 0, locals := 43 }
set_option maxHeartbeats 4000000 in
set_option maxRecDepth 100000 in
theorem kX2_init (g : Gx) (M : Mm) (a : Nat) (ha : a < mN M) (ht : isTh (mT M a)) (p r f : Int32) : Ct g yX2_init cX2_init 4 none rmX2_init [.ref (g.1 + a), .int p, .int r, .int f] M (pV fun M' => M' = thM M a p r f) := by
  refine Ct.of rfl (Nat.le_of_ble_eq_true rfl) (fun x => ?_)
  refine r_aload_n dX2_init_0 rfl ?_
  refine r_iload_n dX2_init_1 rfl ?_
  refine r_iload_n dX2_init_2 rfl ?_
  refine r_iload_n dX2_init_3 rfl ?_
  refine r_cI3v ciX2_1 (kX7_init g M a ha ht p r f) (Nat.lt_of_le_of_lt (Nat.zero_le _) ha) ⟨Nat.le_of_ble_eq_true rfl, Nat.le_of_ble_eq_true rfl⟩ (Nat.le_of_ble_eq_true rfl) ⟨Nat.le_of_ble_eq_true rfl, Nat.le_of_ble_eq_true rfl⟩ dX2_init_4 (fun M4 h4 => ?_)
  exact r_ret dX2_init_7 ⟨rfl, h4⟩
def rmX3_init : Room := { frames := 3, cells := 0, slots := 0, locals := 66 }
set_option maxHeartbeats 4000000 in
set_option maxRecDepth 100000 in
theorem kX3_init (g : Gx) (M : Mm) (a : Nat) (ha : a < mN M) (ht : isTh (mT M a)) (p r f : Int32) : Ct g yX3_init cX3_init 4 none rmX3_init [.ref (g.1 + a), .int p, .int r, .int f] M (pV fun M' => M' = thM M a p r f) := by
  refine Ct.of rfl (Nat.le_of_ble_eq_true rfl) (fun x => ?_)
  refine r_aload_n dX3_init_0 rfl ?_
  refine r_iload_n dX3_init_1 rfl ?_
  refine r_iload_n dX3_init_2 rfl ?_
  refine r_iload_n dX3_init_3 rfl ?_
  refine r_cI3v ciX3_1 (kX6_init g M a ha ht p r f) (Nat.lt_of_le_of_lt (Nat.zero_le _) ha) ⟨Nat.le_of_ble_eq_true rfl, Nat.le_of_ble_eq_true rfl⟩ (Nat.le_of_ble_eq_true rfl) ⟨Nat.le_of_ble_eq_true rfl, Nat.le_of_ble_eq_true rfl⟩ dX3_init_4 (fun M4 h4 => ?_)
  exact r_ret dX3_init_7 ⟨rfl, h4⟩
def NwT (M M' : Mm) (κ : Nat) (p r f : Int32) : Prop := mN M' = mN M + 1 ∧ kiS (mT M' (mN M)) = κ ∧ isTh (mT M' (mN M)) ∧ (mI M' (mN M) 0 = p ∧ mI M' (mN M) 1 = r ∧ mI M' (mN M) 2 = f) ∧ ∀ b, b ≠ mN M → mT M' b = mT M b ∧ mI M' b = mI M b ∧ mL M' b = mL M b ∧ mR M' b = mR M b
theorem NwT.mk' {M : Mm} {ci κ : Nat} {p r f : Int32} (hκ : kiS (.inl ci) = κ) (ht : isTh (.inl ci)) : NwT M (thM (aN M (.inl ci)) (mN M) p r f) κ p r f := by
  have eT : mT (thM (aN M (.inl ci)) (mN M) p r f) = mT (aN M (.inl ci)) := rfl
  refine ⟨rfl, by rw [eT, mT_aN]; exact hκ, by rw [eT, mT_aN]; exact ht, ?_, fun b hb => ⟨by rw [eT, mT_aN_ne hb], ?_, by show mL (aN M (.inl ci)) b = _; exact mL_aN_ne hb, by show mR (aN M (.inl ci)) b = _; exact mR_aN_ne hb⟩⟩
  · unfold thM
    rw [mI_sI, mI_sI, mI_sI]
    exact ⟨rfl, rfl, rfl⟩
  · unfold thM
    rw [mI_sI_ne hb, mI_sI_ne hb, mI_sI_ne hb, mI_aN_ne hb]
def rmX8_hired : Room := { frames := 4, cells := 1, slots := 3, locals := 89 }
set_option maxHeartbeats 4000000 in
set_option maxRecDepth 100000 in
theorem kX8_hired (g : Gx) (M : Mm) (h0 : 0 < mN M) (κ : Nat) (kd : Int32) (hk5 : κ < 5) (ek : kd = nI κ) (p r f : Int32) : Ct g yX8_hired cX8_hired 4 (Option.some (FieldType.object "ThievesPaid$Thief")) rmX8_hired [.int kd, .int p, .int r, .int f] M (pR (fun j M' => j = mN M ∧ NwT M M' κ p r f) g.1) := by
  refine Ct.of rfl (Nat.le_of_ble_eq_true rfl) (fun x => ?_)
  refine r_iload_n dX8_hired_0 rfl ?_
  by_cases w1 : kd = 1
  · skip
    subst w1
    refine r_tableIn 32 (off := 31) dX8_hired_1 (by decide) (by decide) (by decide) (by decide) ?_
    have hκ : 1 = κ := (nI_eq (a := 1) (by decide) (by omega)).mp ek
    refine r_new nwX8_275 (Nat.le_of_ble_eq_true rfl) (Nat.le_of_ble_eq_true rfl) dX8_hired_32 ?_
    refine r_dup dX8_hired_35 rfl ?_
    refine r_iload_n dX8_hired_36 rfl ?_
    refine r_iload_n dX8_hired_37 rfl ?_
    refine r_iload_n dX8_hired_38 rfl ?_
    refine r_cI3v ciX8_277 (kX6_init g (aN M (.inl 6)) (mN M) (by rw [mN_aN]; omega) (by rw [mT_aN]; unfold isTh; simp) p r f) (by rw [mN_aN]; omega) ⟨Nat.le_of_ble_eq_true rfl, Nat.le_of_ble_eq_true rfl⟩ (Nat.le_of_ble_eq_true rfl) ⟨Nat.le_of_ble_eq_true rfl, Nat.le_of_ble_eq_true rfl⟩ dX8_hired_39 (fun M39 h39 => ?_)
    exact r_aret dX8_hired_42 ⟨_, rfl, rfl, by rw [h39]; exact NwT.mk' (hκ) (by unfold isTh; simp)⟩
  · skip
    by_cases w2 : kd = 2
    · skip
      subst w2
      refine r_tableIn 43 (off := 42) dX8_hired_1 (by decide) (by decide) (by decide) (by decide) ?_
      have hκ : 2 = κ := (nI_eq (a := 2) (by decide) (by omega)).mp ek
      refine r_new nwX8_278 (Nat.le_of_ble_eq_true rfl) (Nat.le_of_ble_eq_true rfl) dX8_hired_43 ?_
      refine r_dup dX8_hired_46 rfl ?_
      refine r_iload_n dX8_hired_47 rfl ?_
      refine r_iload_n dX8_hired_48 rfl ?_
      refine r_iload_n dX8_hired_49 rfl ?_
      refine r_cI3v ciX8_280 (kX0_init g (aN M (.inl 0)) (mN M) (by rw [mN_aN]; omega) (by rw [mT_aN]; unfold isTh; simp) p r f) (by rw [mN_aN]; omega) ⟨Nat.le_of_ble_eq_true rfl, Nat.le_of_ble_eq_true rfl⟩ (Nat.le_of_ble_eq_true rfl) ⟨Nat.le_of_ble_eq_true rfl, Nat.le_of_ble_eq_true rfl⟩ dX8_hired_50 (fun M50 h50 => ?_)
      exact r_aret dX8_hired_53 ⟨_, rfl, rfl, by rw [h50]; exact NwT.mk' (hκ) (by unfold isTh; simp)⟩
    · skip
      by_cases w3 : kd = 3
      · skip
        subst w3
        refine r_tableIn 54 (off := 53) dX8_hired_1 (by decide) (by decide) (by decide) (by decide) ?_
        have hκ : 3 = κ := (nI_eq (a := 3) (by decide) (by omega)).mp ek
        refine r_new nwX8_281 (Nat.le_of_ble_eq_true rfl) (Nat.le_of_ble_eq_true rfl) dX8_hired_54 ?_
        refine r_dup dX8_hired_57 rfl ?_
        refine r_iload_n dX8_hired_58 rfl ?_
        refine r_iload_n dX8_hired_59 rfl ?_
        refine r_iload_n dX8_hired_60 rfl ?_
        refine r_cI3v ciX8_283 (kX2_init g (aN M (.inl 2)) (mN M) (by rw [mN_aN]; omega) (by rw [mT_aN]; unfold isTh; simp) p r f) (by rw [mN_aN]; omega) ⟨Nat.le_of_ble_eq_true rfl, Nat.le_of_ble_eq_true rfl⟩ (Nat.le_of_ble_eq_true rfl) ⟨Nat.le_of_ble_eq_true rfl, Nat.le_of_ble_eq_true rfl⟩ dX8_hired_61 (fun M61 h61 => ?_)
        exact r_aret dX8_hired_64 ⟨_, rfl, rfl, by rw [h61]; exact NwT.mk' (hκ) (by unfold isTh; simp)⟩
      · skip
        by_cases w4 : kd = 4
        · skip
          subst w4
          refine r_tableIn 65 (off := 64) dX8_hired_1 (by decide) (by decide) (by decide) (by decide) ?_
          have hκ : 4 = κ := (nI_eq (a := 4) (by decide) (by omega)).mp ek
          refine r_new nwX8_284 (Nat.le_of_ble_eq_true rfl) (Nat.le_of_ble_eq_true rfl) dX8_hired_65 ?_
          refine r_dup dX8_hired_68 rfl ?_
          refine r_iload_n dX8_hired_69 rfl ?_
          refine r_iload_n dX8_hired_70 rfl ?_
          refine r_iload_n dX8_hired_71 rfl ?_
          refine r_cI3v ciX8_286 (kX3_init g (aN M (.inl 3)) (mN M) (by rw [mN_aN]; omega) (by rw [mT_aN]; unfold isTh; simp) p r f) (by rw [mN_aN]; omega) ⟨Nat.le_of_ble_eq_true rfl, Nat.le_of_ble_eq_true rfl⟩ (Nat.le_of_ble_eq_true rfl) ⟨Nat.le_of_ble_eq_true rfl, Nat.le_of_ble_eq_true rfl⟩ dX8_hired_72 (fun M72 h72 => ?_)
          exact r_aret dX8_hired_75 ⟨_, rfl, rfl, by rw [h72]; exact NwT.mk' (hκ) (by unfold isTh; simp)⟩
        · skip
          refine r_tableOut 76 dX8_hired_1 (by have q1 := lv_neT w1 (a := 1) (by decide); have q2 := lv_neT w2 (a := 2) (by decide); have q3 := lv_neT w3 (a := 3) (by decide); have q4 := lv_neT w4 (a := 4) (by decide); omega) (by decide) ?_
          have hκ : 0 = κ := by
            rcases (show κ = 0 ∨ κ = 1 ∨ κ = 2 ∨ κ = 3 ∨ κ = 4 by omega) with z | z | z | z | z
            · exact z.symm
            · exact absurd (ek.trans (by rw [z]; rfl)) w1
            · exact absurd (ek.trans (by rw [z]; rfl)) w2
            · exact absurd (ek.trans (by rw [z]; rfl)) w3
            · exact absurd (ek.trans (by rw [z]; rfl)) w4
          refine r_new nwX8_23 (Nat.le_of_ble_eq_true rfl) (Nat.le_of_ble_eq_true rfl) dX8_hired_76 ?_
          refine r_dup dX8_hired_79 rfl ?_
          refine r_iload_n dX8_hired_80 rfl ?_
          refine r_iload_n dX8_hired_81 rfl ?_
          refine r_iload_n dX8_hired_82 rfl ?_
          refine r_cI3v ciX8_82 (kX7_init g (aN M (.inl 7)) (mN M) (by rw [mN_aN]; omega) (by rw [mT_aN]; unfold isTh; simp) p r f) (by rw [mN_aN]; omega) ⟨Nat.le_of_ble_eq_true rfl, Nat.le_of_ble_eq_true rfl⟩ (Nat.le_of_ble_eq_true rfl) ⟨Nat.le_of_ble_eq_true rfl, Nat.le_of_ble_eq_true rfl⟩ dX8_hired_83 (fun M83 h83 => ?_)
          exact r_aret dX8_hired_86 ⟨_, rfl, rfl, by rw [h83]; exact NwT.mk' (hκ) (by unfold isTh; simp)⟩
def rmX8_contracts (cn : Nat) : Room := { frames := 5, cells := cn, slots := 3 * cn, locals := 112 }
def conS (σ : Ab) (n : Nat) (rw' : Rw) : Ab := (n, zS σ, fun t => (rw' (4 * t)).toNatClampNeg, fun t => rw' (4 * t + 1), fun t => rw' (4 * t + 2), fun t => rw' (4 * t + 3), zw σ, zo σ)
def conD (δ : Dy) : Dy := dyT (dyQ δ (fun _ => 1)) (fun _ => 10)
/-- nothing has changed below but the ints of these cells and the row of thieves; n cells have come -/
def FrA (is : List Nat) (M M' : Mm) (n : Nat) : Prop := mN M' = mN M + n ∧ (∀ b, b < mN M → mT M' b = mT M b) ∧ (∀ b, b < mN M → b ≠ 8 → mR M' b = mR M b) ∧ (∀ b, b < mN M → b ∉ is → mI M' b = mI M b) ∧ (∀ b, b < mN M → mL M' b = mL M b)
theorem FrA.of {is ls : List Nat} {M M' : Mm} (h : Fr is [] M M') : FrA is M M' 0 := ⟨h.1.1, fun b _ => by rw [h.1.2.1], fun b _ _ => by rw [h.1.2.2], fun b _ hb => h.2.1 b hb, fun b _ => h.2.2 b (by simp)⟩
theorem FrA.sI' {is : List Nat} {M M1 : Mm} {n a k : Nat} {v : Int32} (h : FrA is M M1 n) (ha : a ∈ is) : FrA is M (sI M1 a k v) n := ⟨h.1, h.2.1, h.2.2.1, fun b hb hn => (mI_sI_ne (fun e => hn (by rw [e]; exact ha))).trans (h.2.2.2.1 b hb hn), h.2.2.2.2⟩
theorem FrA.sR8 {is : List Nat} {M M1 : Mm} {n k : Nat} {v : Option Nat} (h : FrA is M M1 n) : FrA is M (sR M1 8 k v) n := ⟨h.1, h.2.1, fun b hb hn => (mR_sR_ne hn).trans (h.2.2.1 b hb hn), h.2.2.2.1, h.2.2.2.2⟩
theorem FrA.nw {is : List Nat} {M M1 M2 : Mm} {n κ : Nat} {p r f : Int32} (h : FrA is M M1 n) (k : NwT M1 M2 κ p r f) : FrA is M M2 (n + 1) := by
  obtain ⟨h1, h2, h3, h4, h5⟩ := h
  have ne : ∀ b, b < mN M → b ≠ mN M1 := fun b hb => by omega
  exact ⟨by rw [k.1, h1]; omega, fun b hb => (k.2.2.2.2 b (ne b hb)).1.trans (h2 b hb), fun b hb hn => (k.2.2.2.2 b (ne b hb)).2.2.2.trans (h3 b hb hn), fun b hb hn => (k.2.2.2.2 b (ne b hb)).2.1.trans (h4 b hb hn), fun b hb => (k.2.2.2.2 b (ne b hb)).2.2.1.trans (h5 b hb)⟩
/-- so far, i thieves have been hired -/
def Hir (M M1 : Mm) (rw' : Rw) (i : Nat) : Prop := St M1 ∧ FrA [0, 16, 17] M M1 i ∧ (∀ t, t < i → thi M1 t = mN M + t ∧ kdT M1 t = (rw' (4 * t)).toNatClampNeg ∧ mI M1 (mN M + t) 0 = rw' (4 * t + 1) ∧ mI M1 (mN M + t) 1 = rw' (4 * t + 2) ∧ mI M1 (mN M + t) 2 = rw' (4 * t + 3)) ∧ (∀ t, t < i → mI M1 16 t = 1 ∧ mI M1 17 t = 10) ∧ (∀ t, i ≤ t → mI M1 16 t = mI M 16 t) ∧ ∀ k, k ≠ 12 → mI M1 0 k = mI M 0 k
theorem Hir.step {M M1 M2 : Mm} {rw' : Rw} {i : Nat} {p r f : Int32} {κ : Nat} (hs : St M) (h : Hir M M1 rw' i) (hi : i < 8) (k : NwT M1 M2 κ p r f) (e0 : κ = (rw' (4 * i)).toNatClampNeg) (e1 : p = rw' (4 * i + 1)) (e2 : r = rw' (4 * i + 2)) (e3 : f = rw' (4 * i + 3)) : Hir M (sI (sI (sR M2 8 i (some (mN M1))) 16 i 1) 17 i 10) rw' (i + 1) := by
  obtain ⟨g1, g2, g3, g4, g5, g6⟩ := h
  have gN := g2.1
  have hM59 := hs.1
  have ne : ∀ b, b < mN M + i → b ≠ mN M1 := fun b hb => by omega
  generalize hM' : sI (sI (sR M2 8 i (some (mN M1))) 16 i 1) 17 i 10 = M'
  have eN : mN M' = mN M1 + 1 := by rw [← hM']; exact k.1
  have eT : mT M' = mT M2 := by rw [← hM']; rfl
  have eR8 : mR M' 8 = va_up (mR M2 8) i (some (mN M1)) := by rw [← hM', mR_sI, mR_sI, mR_sR]
  have eRn : ∀ b, b ≠ 8 → mR M' b = mR M2 b := fun b hb => by rw [← hM', mR_sI, mR_sI, mR_sR_ne hb]
  have eI : ∀ b, b ≠ 16 → b ≠ 17 → mI M' b = mI M2 b := fun b h1 h2 => by rw [← hM', mI_sI_ne h2, mI_sI_ne h1, mI_sR]
  have e16 : mI M' 16 = va_up (mI M2 16) i 1 := by rw [← hM', mI_sI_ne (by decide), mI_sI, mI_sR]
  have e17 : mI M' 17 = va_up (mI M2 17) i 10 := by rw [← hM', mI_sI, mI_sI_ne (by decide), mI_sR]
  have fA : FrA [0, 16, 17] M M' (i + 1) := by rw [← hM']; exact (((g2.nw k).sR8).sI' (by simp)).sI' (by simp)
  clear hM'
  have k8 : mR M2 8 = mR M1 8 := (k.2.2.2.2 8 (ne 8 (by omega))).2.2.2
  have ti : ∀ t, thi M' t = if t = i then mN M1 else thi M1 t := fun t => by
    unfold thi
    rw [eR8, va_up_if, k8]
    split <;> rfl
  have told : ∀ b, b ≠ mN M1 → mT M' b = mT M1 b := fun b hb => by rw [eT]; exact (k.2.2.2.2 b hb).1
  refine ⟨⟨by omega, fun a sh e => ?_, fun a n j e => ?_, fun t ht => ?_⟩, fA, fun t ht => ?_, fun t ht => ?_, fun t ht => ?_, fun q hq => ?_⟩
  · have ha : a < 59 := by
      have := (List.getElem?_eq_some_iff.mp e).1
      exact this
    rw [told a (by omega)]; exact g1.2.1 a sh e
  · have ha : a ≠ 8 := fun q => by rw [q] at e; simp [rfs, rfsL] at e
    have ha2 : a < 59 := by
      rcases Nat.lt_or_ge a 59 with z | z
      · exact z
      · exfalso
        have : rfsL a = [] := by unfold rfsL; split <;> first | omega | rfl
        rw [rfs, this] at e
        cases e
    rw [eRn a ha, (k.2.2.2.2 a (by omega)).2.2.2]; exact g1.2.2.1 a n j e
  · have g1t := g1.2.2.2 t ht
    rw [ti t, eR8, va_up_if, k8]
    by_cases z : t = i
    · rw [if_pos z, if_pos z]
      exact ⟨rfl, by omega, by omega, by omega, by rw [eT]; exact k.2.2.1⟩
    · rw [if_neg z, if_neg z]
      exact ⟨g1t.1, g1t.2.1, g1t.2.2.1, by omega, by rw [told _ (by omega)]; exact g1t.2.2.2.2⟩
  · unfold kdT
    rw [ti t]
    by_cases z : t = i
    · subst z
      rw [if_pos rfl, eT, gN, eI _ (by omega) (by omega), ← gN]
      exact ⟨rfl, k.2.1.trans e0, k.2.2.2.1.1.trans e1, k.2.2.2.1.2.1.trans e2, k.2.2.2.1.2.2.trans e3⟩
    · have gt := g3 t (by omega)
      rw [if_neg z, gt.1, told _ (by omega), eI _ (by omega) (by omega), (k.2.2.2.2 (mN M + t) (by omega)).2.1]
      refine ⟨rfl, ?_, gt.2.2⟩
      have := gt.2.1
      unfold kdT at this
      rw [gt.1] at this
      exact this
  · rw [e16, e17, va_up_if, va_up_if]
    by_cases z : t = i
    · rw [if_pos z, if_pos z]; exact ⟨rfl, rfl⟩
    · rw [if_neg z, if_neg z, (k.2.2.2.2 16 (by omega)).2.1, (k.2.2.2.2 17 (by omega)).2.1]; exact g4 t (by omega)
  · rw [e16, va_up_ne _ _ (by omega), (k.2.2.2.2 16 (by omega)).2.1]; exact g5 t (by omega)
  · rw [eI 0 (by decide) (by decide), (k.2.2.2.2 0 (by omega)).2.1]; exact g6 q hq
