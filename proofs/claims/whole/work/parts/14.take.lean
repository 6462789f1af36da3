def b01 (v : Int32) : Prop := v = 0 ∨ v = 1
def cpR (c d k : Nat) (M M1 : Mm) (i : Nat) : Prop := ∀ j, j < i → mI M1 (c + k) j = mI M (d + k) j
theorem cpR.ne {c d k l : Nat} {M M1 : Mm} {i i' : Nat} {v : Int32} (h : cpR c d k M M1 i) (hk : k ≠ l) : cpR c d k M (sI M1 (c + l) i' v) i := fun j hj => (congrFun (mI_sI_ne (by omega)) j).trans (h j hj)
theorem cpR.n0 {c d k : Nat} {M M1 : Mm} {i i' : Nat} {v : Int32} (h : cpR c d k M M1 i) (hk : k ≠ 0) : cpR c d k M (sI M1 c i' v) i := fun j hj => (congrFun (mI_sI_ne (by omega)) j).trans (h j hj)
theorem cpR.st {c d k : Nat} {M M1 : Mm} {i : Nat} {v : Int32} (h : cpR c d k M M1 i) (hv : v = mI M (d + k) i) : cpR c d k M (sI M1 (c + k) i v) (i + 1) := by
  intro j hj
  rw [mI_sI, va_up_if]
  by_cases e : j = i
  · rw [if_pos e, hv, e]
  · rw [if_neg e]; exact h j (by omega)
def cF (c : Nat) : List Nat := [c, c + 1, c + 2, c + 3, c + 4, c + 5, c + 6]
theorem cF_in {c a : Nat} : a ∈ cF c ↔ c ≤ a ∧ a ≤ c + 6 := by unfold cF; simp; omega
theorem isC.apart {c d : Nat} (hc : isC c) (hd : isC d) (h : c ≠ d) : c + 6 < d ∨ d + 6 < c := by unfold isC at hc hd; omega
theorem cF_out {c d k : Nat} (hc : isC c) (hd : isC d) (h : c ≠ d) (hk : k ≤ 6) : d + k ∉ cF c := by
  have := hc.apart hd h
  rw [cF_in]; omega
def rmX1_takeOver : Room := { frames := 0, cells := 0, slots := 0, locals := 0 }
set_option maxHeartbeats 4000000 in
set_option maxRecDepth 100000 in
theorem lp_take3 (g : Gx) (x : Cx) (M : Mm) (c d : Nat) (hc : isC c) (hd : isC d) (hcd : c ≠ d) (hs : St M) (hb : ∀ j, j < 8 → b01 (mI M (d + 4) j) ∧ b01 (mI M (d + 5) j)) : ∀ (n : Nat) (i : Nat) (v : Int32) (M1 : Mm), i ≤ 8 → 8 - i < n → v = nI i → Fr (cF c) [] M M1 → cpR c d 1 M M1 8 → cpR c d 2 M M1 8 → cpR c d 3 M M1 8 → cpR c d 4 M M1 8 → cpR c d 5 M M1 i → cpR c d 6 M M1 i → Vj x g yX1_takeOver cX1_takeOver 3 none rmX1_takeOver (Qm x g rmX1_takeOver.cells rmX1_takeOver.slots (pV fun M' => Fr (cF c) [] M M' ∧ (∀ k, 1 ≤ k → k ≤ 6 → cpR c d k M M' 8) ∧ mI M' c 6 = mI M d 6 ∧ mI M' c 7 = mI M d 7)) 0 0 M1 78 [(0, some (.ref (g.1 + c))), (1, some (.ref (g.1 + d))), (2, some (.int v))] [] := by
  intro n
  induction n with
  | zero => intro i v M1 hi8 hn hv hF k1 k2 k3 k4 k5 k6; omega
  | succ n ih =>
    intro i v M1 hi8 hn hv hF k1 k2 k3 k4 k5 k6
    have hs1 := hs.fr hF
    refine r_iload_n dX1_takeOver_78 rfl ?_
    refine r_bipush (v := 8) dX1_takeOver_79 (by decide) ?_
    refine r_icmp_ge 114 dX1_takeOver_81 (by decide) (fun c81 => ?_) (fun c81 => ?_)
    · skip
      refine r_aload_n dX1_takeOver_114 rfl ?_
      refine r_aload_n dX1_takeOver_115 rfl ?_
      refine r_getI flX1_31_1 rfl (hs1.cl0 hd) (hs1.cT hd) dX1_takeOver_116 ?_
      refine r_putI fpX1_31_1 rfl (hs1.cl0 hc) (hs1.cT hc) rfl rfl dX1_takeOver_119 ?_
      refine r_aload_n dX1_takeOver_122 rfl ?_
      refine r_aload_n dX1_takeOver_123 rfl ?_
      refine r_getI flX1_35_1 rfl (hs1.cl0 hd) (hs1.cT hd) dX1_takeOver_124 ?_
      refine r_putI fpX1_35_1 rfl (hs1.cl0 hc) (hs1.cT hc) rfl rfl dX1_takeOver_127 ?_
      exact r_ret dX1_takeOver_130 (by
            have e := lp_ge (n := 8) hv rfl c81 hi8 (by decide)
            rw [e] at k5 k6
            refine ⟨rfl, (hF.sI (cF_in.mpr (by omega))).sI (cF_in.mpr (by omega)), fun k h1 h2 => ?_, ?_, ?_⟩
            · rcases (show k = 1 ∨ k = 2 ∨ k = 3 ∨ k = 4 ∨ k = 5 ∨ k = 6 by omega) with e | e | e | e | e | e <;> rw [e]
              · exact (k1.n0 (by decide)).n0 (by decide)
              · exact (k2.n0 (by decide)).n0 (by decide)
              · exact (k3.n0 (by decide)).n0 (by decide)
              · exact (k4.n0 (by decide)).n0 (by decide)
              · exact (k5.n0 (by decide)).n0 (by decide)
              · exact (k6.n0 (by decide)).n0 (by decide)
            · rw [mI_sI, va_up_ne _ _ (by decide), mI_sI, va_up_self, hF.2.1 d (cF_out (k := 0) hc hd hcd (by decide))]
            · rw [mI_sI, va_up_self, mI_sI_ne (fun e => hcd e.symm), hF.2.1 d (cF_out (k := 0) hc hd hcd (by decide))])
    · skip
      have hi : i < 8 := lp_lt (n := 8) hv rfl c81 hi8 (by decide)
      refine r_aload_n dX1_takeOver_84 rfl ?_
      refine r_getR flX1_25_1 rfl (hs1.cl0 hc) (hs1.cT hc) (hs1.cR4 hc) dX1_takeOver_85 ?_
      refine r_iload_n dX1_takeOver_88 rfl ?_
      refine r_aload_n dX1_takeOver_89 rfl ?_
      refine r_getR flX1_25_1 rfl (hs1.cl0 hd) (hs1.cT hd) (hs1.cR4 hd) dX1_takeOver_90 ?_
      refine r_iload_n dX1_takeOver_93 rfl ?_
      refine r_zal (hs1.cA4 hd) (hs1.cl hd 5 (by decide)) (ix_of hv hi (by decide)) dX1_takeOver_94 ?_
      refine r_zas (hs1.cA4 hc) (hs1.cl hc 5 (by decide)) (ix_of hv hi (by decide)) (by rw [show mI _ (d + 5) i = mI M (d + 5) i from (congrFun (hF.2.1 _ (cF_out hc hd hcd (by decide))) i)]; exact (hb i hi).2) dX1_takeOver_95 ?_
      refine r_aload_n dX1_takeOver_96 rfl ?_
      refine r_getR flX1_28_1 rfl (hs1.cl0 hc) (hs1.cT hc) (hs1.cR5 hc) dX1_takeOver_97 ?_
      refine r_iload_n dX1_takeOver_100 rfl ?_
      refine r_aload_n dX1_takeOver_101 rfl ?_
      refine r_getR flX1_28_1 rfl (hs1.cl0 hd) (hs1.cT hd) (hs1.cR5 hd) dX1_takeOver_102 ?_
      refine r_iload_n dX1_takeOver_105 rfl ?_
      refine r_ial (hs1.cA5 hd) (hs1.cl hd 6 (by decide)) (ix_of hv hi (by decide)) dX1_takeOver_106 ?_
      refine r_ias (hs1.cA5 hc) (hs1.cl hc 6 (by decide)) (ix_of hv hi (by decide)) dX1_takeOver_107 ?_
      refine r_iinc dX1_takeOver_108 rfl rfl rfl ?_
      refine r_goto 78 dX1_takeOver_111 (by decide) ?_
      exact r_lv (lvSc rfl (lvSc rfl (lvSc rfl lvS0))) (ih (i + 1) _ _ (by omega) (by omega) (nI_inc hv) ((hF.sI (cF_in.mpr (by omega))).sI (cF_in.mpr (by omega))) ((k1.ne (by decide)).ne (by decide)) ((k2.ne (by decide)).ne (by decide)) ((k3.ne (by decide)).ne (by decide)) ((k4.ne (by decide)).ne (by decide)) ((k5.st (congrFun (hF.2.1 _ (cF_out hc hd hcd (by decide))) i)).ne (by decide)) ((k6.ne (by decide)).st (congrFun ((hF.sI (cF_in.mpr (by omega))).2.1 _ (cF_out hc hd hcd (by decide))) i)))
set_option maxHeartbeats 4000000 in
set_option maxRecDepth 100000 in
theorem lp_take2 (g : Gx) (x : Cx) (M : Mm) (c d : Nat) (hc : isC c) (hd : isC d) (hcd : c ≠ d) (hs : St M) (hb : ∀ j, j < 8 → b01 (mI M (d + 4) j) ∧ b01 (mI M (d + 5) j)) : ∀ (n : Nat) (i : Nat) (v : Int32) (M1 : Mm), i ≤ 8 → 8 - i < n → v = nI i → Fr (cF c) [] M M1 → cpR c d 1 M M1 8 → cpR c d 2 M M1 8 → cpR c d 3 M M1 i → cpR c d 4 M M1 i → Vj x g yX1_takeOver cX1_takeOver 3 none rmX1_takeOver (Qm x g rmX1_takeOver.cells rmX1_takeOver.slots (pV fun M' => Fr (cF c) [] M M' ∧ (∀ k, 1 ≤ k → k ≤ 6 → cpR c d k M M' 8) ∧ mI M' c 6 = mI M d 6 ∧ mI M' c 7 = mI M d 7)) 0 0 M1 40 [(0, some (.ref (g.1 + c))), (1, some (.ref (g.1 + d))), (2, some (.int v))] [] := by
  intro n
  induction n with
  | zero => intro i v M1 hi8 hn hv hF k1 k2 k3 k4; omega
  | succ n ih =>
    intro i v M1 hi8 hn hv hF k1 k2 k3 k4
    have hs1 := hs.fr hF
    refine r_iload_n dX1_takeOver_40 rfl ?_
    refine r_bipush (v := 8) dX1_takeOver_41 (by decide) ?_
    refine r_icmp_ge 76 dX1_takeOver_43 (by decide) (fun c43 => ?_) (fun c43 => ?_)
    · skip
      refine r_iconst (v := 0) dX1_takeOver_76 (by decide) ?_
      refine r_istore_n dX1_takeOver_77 (by decide) rfl ?_
      exact r_lv (lvSc rfl (lvSc rfl (lvSc rfl lvS0))) (lp_take3 g x M c d hc hd hcd hs hb 9 0 0 M1 (by omega) (by omega) rfl hF k1 k2 (by rw [lp_ge (n := 8) hv rfl c43 hi8 (by decide)] at k3; exact k3) (by rw [lp_ge (n := 8) hv rfl c43 hi8 (by decide)] at k4; exact k4) (fun j hj => by omega) (fun j hj => by omega))
    · skip
      have hi : i < 8 := lp_lt (n := 8) hv rfl c43 hi8 (by decide)
      refine r_aload_n dX1_takeOver_46 rfl ?_
      refine r_getR flX1_18_1 rfl (hs1.cl0 hc) (hs1.cT hc) (hs1.cR2 hc) dX1_takeOver_47 ?_
      refine r_iload_n dX1_takeOver_50 rfl ?_
      refine r_aload_n dX1_takeOver_51 rfl ?_
      refine r_getR flX1_18_1 rfl (hs1.cl0 hd) (hs1.cT hd) (hs1.cR2 hd) dX1_takeOver_52 ?_
      refine r_iload_n dX1_takeOver_55 rfl ?_
      refine r_ial (hs1.cA2 hd) (hs1.cl hd 3 (by decide)) (ix_of hv hi (by decide)) dX1_takeOver_56 ?_
      refine r_ias (hs1.cA2 hc) (hs1.cl hc 3 (by decide)) (ix_of hv hi (by decide)) dX1_takeOver_57 ?_
      refine r_aload_n dX1_takeOver_58 rfl ?_
      refine r_getR flX1_21_1 rfl (hs1.cl0 hc) (hs1.cT hc) (hs1.cR3 hc) dX1_takeOver_59 ?_
      refine r_iload_n dX1_takeOver_62 rfl ?_
      refine r_aload_n dX1_takeOver_63 rfl ?_
      refine r_getR flX1_21_1 rfl (hs1.cl0 hd) (hs1.cT hd) (hs1.cR3 hd) dX1_takeOver_64 ?_
      refine r_iload_n dX1_takeOver_67 rfl ?_
      refine r_zal (hs1.cA3 hd) (hs1.cl hd 4 (by decide)) (ix_of hv hi (by decide)) dX1_takeOver_68 ?_
      refine r_zas (hs1.cA3 hc) (hs1.cl hc 4 (by decide)) (ix_of hv hi (by decide)) (by rw [show mI _ (d + 4) i = mI M (d + 4) i from (congrFun ((hF.sI (cF_in.mpr (by omega))).2.1 _ (cF_out hc hd hcd (by decide))) i)]; exact (hb i hi).1) dX1_takeOver_69 ?_
      refine r_iinc dX1_takeOver_70 rfl rfl rfl ?_
      refine r_goto 40 dX1_takeOver_73 (by decide) ?_
      exact r_lv (lvSc rfl (lvSc rfl (lvSc rfl lvS0))) (ih (i + 1) _ _ (by omega) (by omega) (nI_inc hv) ((hF.sI (cF_in.mpr (by omega))).sI (cF_in.mpr (by omega))) ((k1.ne (by decide)).ne (by decide)) ((k2.ne (by decide)).ne (by decide)) ((k3.st (congrFun (hF.2.1 _ (cF_out hc hd hcd (by decide))) i)).ne (by decide)) ((k4.ne (by decide)).st (congrFun ((hF.sI (cF_in.mpr (by omega))).2.1 _ (cF_out hc hd hcd (by decide))) i)))
set_option maxHeartbeats 4000000 in
set_option maxRecDepth 100000 in
theorem lp_take1 (g : Gx) (x : Cx) (M : Mm) (c d : Nat) (hc : isC c) (hd : isC d) (hcd : c ≠ d) (hs : St M) (hb : ∀ j, j < 8 → b01 (mI M (d + 4) j) ∧ b01 (mI M (d + 5) j)) : ∀ (n : Nat) (i : Nat) (v : Int32) (M1 : Mm), i ≤ 8 → 8 - i < n → v = nI i → Fr (cF c) [] M M1 → cpR c d 1 M M1 i → cpR c d 2 M M1 i → Vj x g yX1_takeOver cX1_takeOver 3 none rmX1_takeOver (Qm x g rmX1_takeOver.cells rmX1_takeOver.slots (pV fun M' => Fr (cF c) [] M M' ∧ (∀ k, 1 ≤ k → k ≤ 6 → cpR c d k M M' 8) ∧ mI M' c 6 = mI M d 6 ∧ mI M' c 7 = mI M d 7)) 0 0 M1 2 [(0, some (.ref (g.1 + c))), (1, some (.ref (g.1 + d))), (2, some (.int v))] [] := by
  intro n
  induction n with
  | zero => intro i v M1 hi8 hn hv hF k1 k2; omega
  | succ n ih =>
    intro i v M1 hi8 hn hv hF k1 k2
    have hs1 := hs.fr hF
    refine r_iload_n dX1_takeOver_2 rfl ?_
    refine r_bipush (v := 8) dX1_takeOver_3 (by decide) ?_
    refine r_icmp_ge 38 dX1_takeOver_5 (by decide) (fun c5 => ?_) (fun c5 => ?_)
    · skip
      refine r_iconst (v := 0) dX1_takeOver_38 (by decide) ?_
      refine r_istore_n dX1_takeOver_39 (by decide) rfl ?_
      exact r_lv (lvSc rfl (lvSc rfl (lvSc rfl lvS0))) (lp_take2 g x M c d hc hd hcd hs hb 9 0 0 M1 (by omega) (by omega) rfl hF (by rw [lp_ge (n := 8) hv rfl c5 hi8 (by decide)] at k1; exact k1) (by rw [lp_ge (n := 8) hv rfl c5 hi8 (by decide)] at k2; exact k2) (fun j hj => by omega) (fun j hj => by omega))
    · skip
      have hi : i < 8 := lp_lt (n := 8) hv rfl c5 hi8 (by decide)
      refine r_aload_n dX1_takeOver_8 rfl ?_
      refine r_getR flX1_9_1 rfl (hs1.cl0 hc) (hs1.cT hc) (hs1.cR0 hc) dX1_takeOver_9 ?_
      refine r_iload_n dX1_takeOver_12 rfl ?_
      refine r_aload_n dX1_takeOver_13 rfl ?_
      refine r_getR flX1_9_1 rfl (hs1.cl0 hd) (hs1.cT hd) (hs1.cR0 hd) dX1_takeOver_14 ?_
      refine r_iload_n dX1_takeOver_17 rfl ?_
      refine r_ial (hs1.cA0 hd) (hs1.cl hd 1 (by decide)) (ix_of hv hi (by decide)) dX1_takeOver_18 ?_
      refine r_ias (hs1.cA0 hc) (hs1.cl hc 1 (by decide)) (ix_of hv hi (by decide)) dX1_takeOver_19 ?_
      refine r_aload_n dX1_takeOver_20 rfl ?_
      refine r_getR flX1_15_1 rfl (hs1.cl0 hc) (hs1.cT hc) (hs1.cR1 hc) dX1_takeOver_21 ?_
      refine r_iload_n dX1_takeOver_24 rfl ?_
      refine r_aload_n dX1_takeOver_25 rfl ?_
      refine r_getR flX1_15_1 rfl (hs1.cl0 hd) (hs1.cT hd) (hs1.cR1 hd) dX1_takeOver_26 ?_
      refine r_iload_n dX1_takeOver_29 rfl ?_
      refine r_ial (hs1.cA1 hd) (hs1.cl hd 2 (by decide)) (ix_of hv hi (by decide)) dX1_takeOver_30 ?_
      refine r_ias (hs1.cA1 hc) (hs1.cl hc 2 (by decide)) (ix_of hv hi (by decide)) dX1_takeOver_31 ?_
      refine r_iinc dX1_takeOver_32 rfl rfl rfl ?_
      refine r_goto 2 dX1_takeOver_35 (by decide) ?_
      exact r_lv (lvSc rfl (lvSc rfl (lvSc rfl lvS0))) (ih (i + 1) _ _ (by omega) (by omega) (nI_inc hv) ((hF.sI (cF_in.mpr (by omega))).sI (cF_in.mpr (by omega)))  ((k1.st (congrFun (hF.2.1 _ (cF_out hc hd hcd (by decide))) i)).ne (by decide)) ((k2.ne (by decide)).st (congrFun ((hF.sI (cF_in.mpr (by omega))).2.1 _ (cF_out hc hd hcd (by decide))) i)))
set_option maxHeartbeats 4000000 in
set_option maxRecDepth 100000 in
theorem kX1_takeOver (g : Gx) (M : Mm) (c d : Nat) (hc : isC c) (hd : isC d) (hcd : c ≠ d) (hs : St M) (hb : ∀ j, j < 8 → b01 (mI M (d + 4) j) ∧ b01 (mI M (d + 5) j)) : Ct g yX1_takeOver cX1_takeOver 3 none rmX1_takeOver [.ref (g.1 + c), .ref (g.1 + d)] M (pV fun M' => Fr (cF c) [] M M' ∧ (∀ k, 1 ≤ k → k ≤ 6 → cpR c d k M M' 8) ∧ mI M' c 6 = mI M d 6 ∧ mI M' c 7 = mI M d 7) := by
  refine Ct.of rfl (Nat.le_of_ble_eq_true rfl) (fun x => ?_)
  refine r_iconst (v := 0) dX1_takeOver_0 (by decide) ?_
  refine r_istore_n dX1_takeOver_1 (by decide) rfl ?_
  exact r_lv (lvSc rfl (lvSc rfl (lvSc rfl lvS0))) (lp_take1 g x M c d hc hd hcd hs hb 9 0 0 M (by omega) (by omega) rfl (Fr.rf _ _ _) (fun j hj => by omega) (fun j hj => by omega))
