/-! the two systems as they are made: memories without a variable -/
def mE : Mm := (0, fun _ => .inl 0, fun _ _ => 0, fun _ _ => 0, fun _ _ => none)
section NewJ
variable {x : Cx} {g : Gx} {y : MethodName} {cc : ByteArray} {nL : Nat} {ret : Option FieldType} {R : Room} {Q : State → Prop} {k sl : Nat} {M : Mm} {pc : Nat} {lv : Lv} {rest : List Value}
theorem r_ref {a b : Nat} {st : List Value} (e : a = b) (kk : Vj x g y cc nL ret R Q k sl M pc lv (.ref (g.1 + b) :: st)) : Vj x g y cc nL ret R Q k sl M pc lv (.ref (g.1 + a) :: st) := by rw [e]; exact kk
end NewJ
def mS0 : Mm := aN mE (.inl 8)
def mS1 : Mm := aN mS0 (.inl 4)
def mS2 : Mm := aN mS1 (.inr (0, 40))
def mS3 : Mm := sR mS2 1 0 (some 2)
def mS4 : Mm := sI mS3 1 1 (0)
def mS5 : Mm := sR mS4 0 0 (some 1)
def mS6 : Mm := aN mS5 (.inl 5)
def mS7 : Mm := aN mS6 (.inr (0, 8))
def mS8 : Mm := sR mS7 3 0 (some 4)
def mS9 : Mm := aN mS8 (.inr (0, 8))
def mS10 : Mm := sR mS9 3 1 (some 5)
def mS11 : Mm := aN mS10 (.inr (0, 8))
def mS12 : Mm := sR mS11 3 2 (some 6)
def mS13 : Mm := aN mS12 (.inr (0, 8))
def mS14 : Mm := sR mS13 3 3 (some 7)
def mS15 : Mm := sI mS14 3 4 (0)
def mS16 : Mm := sI mS15 3 5 (0)
def mS17 : Mm := sR mS16 0 1 (some 3)
def mS18 : Mm := aN mS17 (.inr (3, 8))
def mS19 : Mm := sR mS18 0 2 (some 8)
def mS20 : Mm := aN mS19 (.inr (0, 8))
def mS21 : Mm := sR mS20 0 3 (some 9)
def mS22 : Mm := aN mS21 (.inr (0, 8))
def mS23 : Mm := sR mS22 0 4 (some 10)
def mS24 : Mm := aN mS23 (.inl 1)
def mS25 : Mm := aN mS24 (.inr (0, 8))
def mS26 : Mm := sR mS25 11 0 (some 12)
def mS27 : Mm := aN mS26 (.inr (0, 8))
def mS28 : Mm := sR mS27 11 1 (some 13)
def mS29 : Mm := aN mS28 (.inr (0, 8))
def mS30 : Mm := sR mS29 11 2 (some 14)
def mS31 : Mm := aN mS30 (.inr (2, 8))
def mS32 : Mm := sR mS31 11 3 (some 15)
def mS33 : Mm := aN mS32 (.inr (2, 8))
def mS34 : Mm := sR mS33 11 4 (some 16)
def mS35 : Mm := aN mS34 (.inr (0, 8))
def mS36 : Mm := sR mS35 11 5 (some 17)
def mS37 : Mm := sI mS36 11 6 (0)
def mS38 : Mm := sI mS37 11 7 (0)
def mS39 : Mm := sR mS38 0 5 (some 11)
def mS40 : Mm := aN mS39 (.inl 1)
def mS41 : Mm := aN mS40 (.inr (0, 8))
def mS42 : Mm := sR mS41 18 0 (some 19)
def mS43 : Mm := aN mS42 (.inr (0, 8))
def mS44 : Mm := sR mS43 18 1 (some 20)
def mS45 : Mm := aN mS44 (.inr (0, 8))
def mS46 : Mm := sR mS45 18 2 (some 21)
def mS47 : Mm := aN mS46 (.inr (2, 8))
def mS48 : Mm := sR mS47 18 3 (some 22)
def mS49 : Mm := aN mS48 (.inr (2, 8))
def mS50 : Mm := sR mS49 18 4 (some 23)
def mS51 : Mm := aN mS50 (.inr (0, 8))
def mS52 : Mm := sR mS51 18 5 (some 24)
def mS53 : Mm := sI mS52 18 6 (0)
def mS54 : Mm := sI mS53 18 7 (0)
def mS55 : Mm := sR mS54 0 6 (some 18)
def mS56 : Mm := aN mS55 (.inl 1)
def mS57 : Mm := aN mS56 (.inr (0, 8))
def mS58 : Mm := sR mS57 25 0 (some 26)
def mS59 : Mm := aN mS58 (.inr (0, 8))
def mS60 : Mm := sR mS59 25 1 (some 27)
def mS61 : Mm := aN mS60 (.inr (0, 8))
def mS62 : Mm := sR mS61 25 2 (some 28)
def mS63 : Mm := aN mS62 (.inr (2, 8))
def mS64 : Mm := sR mS63 25 3 (some 29)
def mS65 : Mm := aN mS64 (.inr (2, 8))
def mS66 : Mm := sR mS65 25 4 (some 30)
def mS67 : Mm := aN mS66 (.inr (0, 8))
def mS68 : Mm := sR mS67 25 5 (some 31)
def mS69 : Mm := sI mS68 25 6 (0)
def mS70 : Mm := sI mS69 25 7 (0)
def mS71 : Mm := sR mS70 0 7 (some 25)
def mS72 : Mm := aN mS71 (.inr (1, 8))
def mS73 : Mm := sR mS72 0 8 (some 32)
def mS74 : Mm := aN mS73 (.inr (0, 8))
def mS75 : Mm := sR mS74 0 9 (some 33)
def mS76 : Mm := aN mS75 (.inr (0, 256))
def mS77 : Mm := sR mS76 0 10 (some 34)
def mS78 : Mm := aN mS77 (.inr (0, 256))
def mS79 : Mm := sR mS78 0 11 (some 35)
def mS80 : Mm := sI mS79 0 12 (0)
def mS81 : Mm := sI mS80 0 13 (0)
def mS82 : Mm := sI mS81 0 14 (0)
def mS83 : Mm := sI mS82 0 15 (0)
def mS84 : Mm := sI mS83 0 16 (0)
def mS85 : Mm := sI mS84 0 17 (0)
def mS86 : Mm := aN mS85 (.inl 7)
def mS87 : Mm := thM mS86 36 (0) (1) (0)
def mS88 : Mm := sR mS87 8 0 (some 36)
def mS89 : Mm := aN mS88 (.inl 7)
def mS90 : Mm := thM mS89 37 (0) (1) (0)
def mS91 : Mm := sR mS90 8 1 (some 37)
def mS92 : Mm := aN mS91 (.inl 7)
def mS93 : Mm := thM mS92 38 (0) (1) (0)
def mS94 : Mm := sR mS93 8 2 (some 38)
def mS95 : Mm := aN mS94 (.inl 7)
def mS96 : Mm := thM mS95 39 (0) (1) (0)
def mS97 : Mm := sR mS96 8 3 (some 39)
def mS98 : Mm := aN mS97 (.inl 7)
def mS99 : Mm := thM mS98 40 (0) (1) (0)
def mS100 : Mm := sR mS99 8 4 (some 40)
def mS101 : Mm := aN mS100 (.inl 7)
def mS102 : Mm := thM mS101 41 (0) (1) (0)
def mS103 : Mm := sR mS102 8 5 (some 41)
def mS104 : Mm := aN mS103 (.inl 7)
def mS105 : Mm := thM mS104 42 (0) (1) (0)
def mS106 : Mm := sR mS105 8 6 (some 42)
def mS107 : Mm := aN mS106 (.inl 7)
def mS108 : Mm := thM mS107 43 (0) (1) (0)
def mS109 : Mm := sR mS108 8 7 (some 43)
def mS00 : Mm := aN mS109 (.inl 9)
def mS110 : Mm := aN mS00 (.inr (0, 40))
def mS111 : Mm := sR mS110 44 0 (some 45)
def mS112 : Mm := aN mS111 (.inr (0, 32))
def mS113 : Mm := sR mS112 44 2 (some 46)
def mS114 : Mm := aN mS113 (.inr (0, 32))
def mS115 : Mm := sR mS114 44 7 (some 47)
def mS116 : Mm := aN mS115 (.inr (0, 8))
def mS117 : Mm := sR mS116 44 9 (some 48)
def mS118 : Mm := aN mS117 (.inr (0, 8))
def mS119 : Mm := sR mS118 44 14 (some 49)
def mS120 : Mm := aN mS119 (.inr (0, 32))
def mS121 : Mm := sR mS120 44 15 (some 50)
def mS122 : Mm := aN mS121 (.inr (0, 8))
def mS123 : Mm := sR mS122 44 16 (some 51)
def mS124 : Mm := aN mS123 (.inr (0, 8))
def mS125 : Mm := sR mS124 44 17 (some 52)
def mS126 : Mm := aN mS125 (.inr (1, 8))
def mS127 : Mm := sR mS126 44 18 (some 53)
def mS128 : Mm := aN mS127 (.inr (0, 256))
def mS129 : Mm := sR mS128 44 19 (some 54)
def mS130 : Mm := aN mS129 (.inr (0, 8))
def mS131 : Mm := sR mS130 44 20 (some 55)
def mS132 : Mm := aN mS131 (.inr (0, 8))
def mS133 : Mm := sR mS132 44 28 (some 56)
def mS134 : Mm := aN mS133 (.inr (0, 8))
def mS135 : Mm := sR mS134 44 29 (some 57)
def mS136 : Mm := aN mS135 (.inr (0, 32))
def mS137 : Mm := sR mS136 44 30 (some 58)
def mS138 : Mm := sI mS137 44 22 (-1)
def rmX4_init : Room := { frames := 1, cells := 1, slots := 40, locals := 20 }
def rmX5_init : Room := { frames := 1, cells := 4, slots := 32, locals := 20 }
def rmX1_init : Room := { frames := 1, cells := 6, slots := 48, locals := 20 }
def rmX8_init : Room := { frames := 2, cells := 43, slots := 824, locals := 43 }
def rmX9_init : Room := { frames := 1, cells := 14, slots := 488, locals := 20 }
set_option maxHeartbeats 4000000 in
set_option maxRecDepth 100000 in
theorem kX4_init_1 (g : Gx) : Ct g yX4_init cX4_init 1 none rmX4_init [.ref (g.1 + 1)] mS1 (pV fun M' => M' = mS4) := by
  refine Ct.of rfl (Nat.le_of_ble_eq_true rfl) (fun x => ?_)
  refine r_aload_n dX4_init_0 rfl ?_
  refine r_objInit tw78 tw71 tw72 (Nat.le_of_ble_eq_true rfl) (Nat.le_of_ble_eq_true rfl) dX4_init_1 ?_
  refine r_aload_n dX4_init_4 rfl ?_
  refine r_bipush (v := 40) dX4_init_5 (by decide) ?_
  refine r_newaI (n := 40) tw90 (by decide) (by decide) (by decide) (Nat.le_of_ble_eq_true rfl) (Nat.le_of_ble_eq_true rfl) dX4_init_7 ?_
  refine r_ref (b := 2) (by decide +kernel) ?_
  refine r_mem (M' := mS2) rfl ?_
  refine r_putRF fpX4_9_4 rfl (by decide +kernel) (by decide +kernel) rfl rfl rfl dX4_init_9 ?_
  refine r_mem (M' := mS3) rfl ?_
  refine r_aload_n dX4_init_12 rfl ?_
  refine r_iconst (v := 0) dX4_init_13 (by decide) ?_
  refine r_putI fpX4_13_4 rfl (by decide +kernel) (by decide +kernel) rfl rfl dX4_init_14 ?_
  refine r_mem (M' := mS4) rfl ?_
  exact r_ret dX4_init_17 ⟨rfl, rfl⟩
set_option maxHeartbeats 4000000 in
set_option maxRecDepth 100000 in
theorem kX5_init_3 (g : Gx) : Ct g yX5_init cX5_init 1 none rmX5_init [.ref (g.1 + 3)] mS6 (pV fun M' => M' = mS16) := by
  refine Ct.of rfl (Nat.le_of_ble_eq_true rfl) (fun x => ?_)
  refine r_aload_n dX5_init_0 rfl ?_
  refine r_objInit tw96 tw71 tw72 (Nat.le_of_ble_eq_true rfl) (Nat.le_of_ble_eq_true rfl) dX5_init_1 ?_
  refine r_aload_n dX5_init_4 rfl ?_
  refine r_bipush (v := 8) dX5_init_5 (by decide) ?_
  refine r_newaI (n := 8) tw90 (by decide) (by decide) (by decide) (Nat.le_of_ble_eq_true rfl) (Nat.le_of_ble_eq_true rfl) dX5_init_7 ?_
  refine r_ref (b := 4) (by decide +kernel) ?_
  refine r_mem (M' := mS7) rfl ?_
  refine r_putRF fpX5_9_5 rfl (by decide +kernel) (by decide +kernel) rfl rfl rfl dX5_init_9 ?_
  refine r_mem (M' := mS8) rfl ?_
  refine r_aload_n dX5_init_12 rfl ?_
  refine r_bipush (v := 8) dX5_init_13 (by decide) ?_
  refine r_newaI (n := 8) tw90 (by decide) (by decide) (by decide) (Nat.le_of_ble_eq_true rfl) (Nat.le_of_ble_eq_true rfl) dX5_init_15 ?_
  refine r_ref (b := 5) (by decide +kernel) ?_
  refine r_mem (M' := mS9) rfl ?_
  refine r_putRF fpX5_15_5 rfl (by decide +kernel) (by decide +kernel) rfl rfl rfl dX5_init_17 ?_
  refine r_mem (M' := mS10) rfl ?_
  refine r_aload_n dX5_init_20 rfl ?_
  refine r_bipush (v := 8) dX5_init_21 (by decide) ?_
  refine r_newaI (n := 8) tw90 (by decide) (by decide) (by decide) (Nat.le_of_ble_eq_true rfl) (Nat.le_of_ble_eq_true rfl) dX5_init_23 ?_
  refine r_ref (b := 6) (by decide +kernel) ?_
  refine r_mem (M' := mS11) rfl ?_
  refine r_putRF fpX5_18_5 rfl (by decide +kernel) (by decide +kernel) rfl rfl rfl dX5_init_25 ?_
  refine r_mem (M' := mS12) rfl ?_
  refine r_aload_n dX5_init_28 rfl ?_
  refine r_bipush (v := 8) dX5_init_29 (by decide) ?_
  refine r_newaI (n := 8) tw90 (by decide) (by decide) (by decide) (Nat.le_of_ble_eq_true rfl) (Nat.le_of_ble_eq_true rfl) dX5_init_31 ?_
  refine r_ref (b := 7) (by decide +kernel) ?_
  refine r_mem (M' := mS13) rfl ?_
  refine r_putRF fpX5_21_5 rfl (by decide +kernel) (by decide +kernel) rfl rfl rfl dX5_init_33 ?_
  refine r_mem (M' := mS14) rfl ?_
  refine r_aload_n dX5_init_36 rfl ?_
  refine r_iconst (v := 0) dX5_init_37 (by decide) ?_
  refine r_putI fpX5_24_5 rfl (by decide +kernel) (by decide +kernel) rfl rfl dX5_init_38 ?_
  refine r_mem (M' := mS15) rfl ?_
  refine r_aload_n dX5_init_41 rfl ?_
  refine r_iconst (v := 0) dX5_init_42 (by decide) ?_
  refine r_putI fpX5_28_5 rfl (by decide +kernel) (by decide +kernel) rfl rfl dX5_init_43 ?_
  refine r_mem (M' := mS16) rfl ?_
  exact r_ret dX5_init_46 ⟨rfl, rfl⟩
set_option maxHeartbeats 4000000 in
set_option maxRecDepth 100000 in
theorem kX1_init_11 (g : Gx) : Ct g yX1_init cX1_init 1 none rmX1_init [.ref (g.1 + 11)] mS24 (pV fun M' => M' = mS38) := by
  refine Ct.of rfl (Nat.le_of_ble_eq_true rfl) (fun x => ?_)
  refine r_aload_n dX1_init_0 rfl ?_
  refine r_objInit tw128 tw71 tw72 (Nat.le_of_ble_eq_true rfl) (Nat.le_of_ble_eq_true rfl) dX1_init_1 ?_
  refine r_aload_n dX1_init_4 rfl ?_
  refine r_bipush (v := 8) dX1_init_5 (by decide) ?_
  refine r_newaI (n := 8) tw90 (by decide) (by decide) (by decide) (Nat.le_of_ble_eq_true rfl) (Nat.le_of_ble_eq_true rfl) dX1_init_7 ?_
  refine r_ref (b := 12) (by decide +kernel) ?_
  refine r_mem (M' := mS25) rfl ?_
  refine r_putRF fpX1_9_1 rfl (by decide +kernel) (by decide +kernel) rfl rfl rfl dX1_init_9 ?_
  refine r_mem (M' := mS26) rfl ?_
  refine r_aload_n dX1_init_12 rfl ?_
  refine r_bipush (v := 8) dX1_init_13 (by decide) ?_
  refine r_newaI (n := 8) tw90 (by decide) (by decide) (by decide) (Nat.le_of_ble_eq_true rfl) (Nat.le_of_ble_eq_true rfl) dX1_init_15 ?_
  refine r_ref (b := 13) (by decide +kernel) ?_
  refine r_mem (M' := mS27) rfl ?_
  refine r_putRF fpX1_15_1 rfl (by decide +kernel) (by decide +kernel) rfl rfl rfl dX1_init_17 ?_
  refine r_mem (M' := mS28) rfl ?_
  refine r_aload_n dX1_init_20 rfl ?_
  refine r_bipush (v := 8) dX1_init_21 (by decide) ?_
  refine r_newaI (n := 8) tw90 (by decide) (by decide) (by decide) (Nat.le_of_ble_eq_true rfl) (Nat.le_of_ble_eq_true rfl) dX1_init_23 ?_
  refine r_ref (b := 14) (by decide +kernel) ?_
  refine r_mem (M' := mS29) rfl ?_
  refine r_putRF fpX1_18_1 rfl (by decide +kernel) (by decide +kernel) rfl rfl rfl dX1_init_25 ?_
  refine r_mem (M' := mS30) rfl ?_
  refine r_aload_n dX1_init_28 rfl ?_
  refine r_bipush (v := 8) dX1_init_29 (by decide) ?_
  refine r_newaZ (n := 8) tw162 (by decide) (by decide) (by decide) (Nat.le_of_ble_eq_true rfl) (Nat.le_of_ble_eq_true rfl) dX1_init_31 ?_
  refine r_ref (b := 15) (by decide +kernel) ?_
  refine r_mem (M' := mS31) rfl ?_
  refine r_putRF fpX1_21_1 rfl (by decide +kernel) (by decide +kernel) rfl rfl rfl dX1_init_33 ?_
  refine r_mem (M' := mS32) rfl ?_
  refine r_aload_n dX1_init_36 rfl ?_
  refine r_bipush (v := 8) dX1_init_37 (by decide) ?_
  refine r_newaZ (n := 8) tw162 (by decide) (by decide) (by decide) (Nat.le_of_ble_eq_true rfl) (Nat.le_of_ble_eq_true rfl) dX1_init_39 ?_
  refine r_ref (b := 16) (by decide +kernel) ?_
  refine r_mem (M' := mS33) rfl ?_
  refine r_putRF fpX1_25_1 rfl (by decide +kernel) (by decide +kernel) rfl rfl rfl dX1_init_41 ?_
  refine r_mem (M' := mS34) rfl ?_
  refine r_aload_n dX1_init_44 rfl ?_
  refine r_bipush (v := 8) dX1_init_45 (by decide) ?_
  refine r_newaI (n := 8) tw90 (by decide) (by decide) (by decide) (Nat.le_of_ble_eq_true rfl) (Nat.le_of_ble_eq_true rfl) dX1_init_47 ?_
  refine r_ref (b := 17) (by decide +kernel) ?_
  refine r_mem (M' := mS35) rfl ?_
  refine r_putRF fpX1_28_1 rfl (by decide +kernel) (by decide +kernel) rfl rfl rfl dX1_init_49 ?_
  refine r_mem (M' := mS36) rfl ?_
  refine r_aload_n dX1_init_52 rfl ?_
  refine r_iconst (v := 0) dX1_init_53 (by decide) ?_
  refine r_putI fpX1_31_1 rfl (by decide +kernel) (by decide +kernel) rfl rfl dX1_init_54 ?_
  refine r_mem (M' := mS37) rfl ?_
  refine r_aload_n dX1_init_57 rfl ?_
  refine r_iconst (v := 0) dX1_init_58 (by decide) ?_
  refine r_putI fpX1_35_1 rfl (by decide +kernel) (by decide +kernel) rfl rfl dX1_init_59 ?_
  refine r_mem (M' := mS38) rfl ?_
  exact r_ret dX1_init_62 ⟨rfl, rfl⟩
set_option maxHeartbeats 4000000 in
set_option maxRecDepth 100000 in
theorem kX1_init_18 (g : Gx) : Ct g yX1_init cX1_init 1 none rmX1_init [.ref (g.1 + 18)] mS40 (pV fun M' => M' = mS54) := by
  refine Ct.of rfl (Nat.le_of_ble_eq_true rfl) (fun x => ?_)
  refine r_aload_n dX1_init_0 rfl ?_
  refine r_objInit tw128 tw71 tw72 (Nat.le_of_ble_eq_true rfl) (Nat.le_of_ble_eq_true rfl) dX1_init_1 ?_
  refine r_aload_n dX1_init_4 rfl ?_
  refine r_bipush (v := 8) dX1_init_5 (by decide) ?_
  refine r_newaI (n := 8) tw90 (by decide) (by decide) (by decide) (Nat.le_of_ble_eq_true rfl) (Nat.le_of_ble_eq_true rfl) dX1_init_7 ?_
  refine r_ref (b := 19) (by decide +kernel) ?_
  refine r_mem (M' := mS41) rfl ?_
  refine r_putRF fpX1_9_1 rfl (by decide +kernel) (by decide +kernel) rfl rfl rfl dX1_init_9 ?_
  refine r_mem (M' := mS42) rfl ?_
  refine r_aload_n dX1_init_12 rfl ?_
  refine r_bipush (v := 8) dX1_init_13 (by decide) ?_
  refine r_newaI (n := 8) tw90 (by decide) (by decide) (by decide) (Nat.le_of_ble_eq_true rfl) (Nat.le_of_ble_eq_true rfl) dX1_init_15 ?_
  refine r_ref (b := 20) (by decide +kernel) ?_
  refine r_mem (M' := mS43) rfl ?_
  refine r_putRF fpX1_15_1 rfl (by decide +kernel) (by decide +kernel) rfl rfl rfl dX1_init_17 ?_
  refine r_mem (M' := mS44) rfl ?_
  refine r_aload_n dX1_init_20 rfl ?_
  refine r_bipush (v := 8) dX1_init_21 (by decide) ?_
  refine r_newaI (n := 8) tw90 (by decide) (by decide) (by decide) (Nat.le_of_ble_eq_true rfl) (Nat.le_of_ble_eq_true rfl) dX1_init_23 ?_
  refine r_ref (b := 21) (by decide +kernel) ?_
  refine r_mem (M' := mS45) rfl ?_
  refine r_putRF fpX1_18_1 rfl (by decide +kernel) (by decide +kernel) rfl rfl rfl dX1_init_25 ?_
  refine r_mem (M' := mS46) rfl ?_
  refine r_aload_n dX1_init_28 rfl ?_
  refine r_bipush (v := 8) dX1_init_29 (by decide) ?_
  refine r_newaZ (n := 8) tw162 (by decide) (by decide) (by decide) (Nat.le_of_ble_eq_true rfl) (Nat.le_of_ble_eq_true rfl) dX1_init_31 ?_
  refine r_ref (b := 22) (by decide +kernel) ?_
  refine r_mem (M' := mS47) rfl ?_
  refine r_putRF fpX1_21_1 rfl (by decide +kernel) (by decide +kernel) rfl rfl rfl dX1_init_33 ?_
  refine r_mem (M' := mS48) rfl ?_
  refine r_aload_n dX1_init_36 rfl ?_
  refine r_bipush (v := 8) dX1_init_37 (by decide) ?_
  refine r_newaZ (n := 8) tw162 (by decide) (by decide) (by decide) (Nat.le_of_ble_eq_true rfl) (Nat.le_of_ble_eq_true rfl) dX1_init_39 ?_
  refine r_ref (b := 23) (by decide +kernel) ?_
  refine r_mem (M' := mS49) rfl ?_
  refine r_putRF fpX1_25_1 rfl (by decide +kernel) (by decide +kernel) rfl rfl rfl dX1_init_41 ?_
  refine r_mem (M' := mS50) rfl ?_
  refine r_aload_n dX1_init_44 rfl ?_
  refine r_bipush (v := 8) dX1_init_45 (by decide) ?_
  refine r_newaI (n := 8) tw90 (by decide) (by decide) (by decide) (Nat.le_of_ble_eq_true rfl) (Nat.le_of_ble_eq_true rfl) dX1_init_47 ?_
  refine r_ref (b := 24) (by decide +kernel) ?_
  refine r_mem (M' := mS51) rfl ?_
  refine r_putRF fpX1_28_1 rfl (by decide +kernel) (by decide +kernel) rfl rfl rfl dX1_init_49 ?_
  refine r_mem (M' := mS52) rfl ?_
  refine r_aload_n dX1_init_52 rfl ?_
  refine r_iconst (v := 0) dX1_init_53 (by decide) ?_
  refine r_putI fpX1_31_1 rfl (by decide +kernel) (by decide +kernel) rfl rfl dX1_init_54 ?_
  refine r_mem (M' := mS53) rfl ?_
  refine r_aload_n dX1_init_57 rfl ?_
  refine r_iconst (v := 0) dX1_init_58 (by decide) ?_
  refine r_putI fpX1_35_1 rfl (by decide +kernel) (by decide +kernel) rfl rfl dX1_init_59 ?_
  refine r_mem (M' := mS54) rfl ?_
  exact r_ret dX1_init_62 ⟨rfl, rfl⟩
set_option maxHeartbeats 4000000 in
set_option maxRecDepth 100000 in
theorem kX1_init_25 (g : Gx) : Ct g yX1_init cX1_init 1 none rmX1_init [.ref (g.1 + 25)] mS56 (pV fun M' => M' = mS70) := by
  refine Ct.of rfl (Nat.le_of_ble_eq_true rfl) (fun x => ?_)
  refine r_aload_n dX1_init_0 rfl ?_
  refine r_objInit tw128 tw71 tw72 (Nat.le_of_ble_eq_true rfl) (Nat.le_of_ble_eq_true rfl) dX1_init_1 ?_
  refine r_aload_n dX1_init_4 rfl ?_
  refine r_bipush (v := 8) dX1_init_5 (by decide) ?_
  refine r_newaI (n := 8) tw90 (by decide) (by decide) (by decide) (Nat.le_of_ble_eq_true rfl) (Nat.le_of_ble_eq_true rfl) dX1_init_7 ?_
  refine r_ref (b := 26) (by decide +kernel) ?_
  refine r_mem (M' := mS57) rfl ?_
  refine r_putRF fpX1_9_1 rfl (by decide +kernel) (by decide +kernel) rfl rfl rfl dX1_init_9 ?_
  refine r_mem (M' := mS58) rfl ?_
  refine r_aload_n dX1_init_12 rfl ?_
  refine r_bipush (v := 8) dX1_init_13 (by decide) ?_
  refine r_newaI (n := 8) tw90 (by decide) (by decide) (by decide) (Nat.le_of_ble_eq_true rfl) (Nat.le_of_ble_eq_true rfl) dX1_init_15 ?_
  refine r_ref (b := 27) (by decide +kernel) ?_
  refine r_mem (M' := mS59) rfl ?_
  refine r_putRF fpX1_15_1 rfl (by decide +kernel) (by decide +kernel) rfl rfl rfl dX1_init_17 ?_
  refine r_mem (M' := mS60) rfl ?_
  refine r_aload_n dX1_init_20 rfl ?_
  refine r_bipush (v := 8) dX1_init_21 (by decide) ?_
  refine r_newaI (n := 8) tw90 (by decide) (by decide) (by decide) (Nat.le_of_ble_eq_true rfl) (Nat.le_of_ble_eq_true rfl) dX1_init_23 ?_
  refine r_ref (b := 28) (by decide +kernel) ?_
  refine r_mem (M' := mS61) rfl ?_
  refine r_putRF fpX1_18_1 rfl (by decide +kernel) (by decide +kernel) rfl rfl rfl dX1_init_25 ?_
  refine r_mem (M' := mS62) rfl ?_
  refine r_aload_n dX1_init_28 rfl ?_
  refine r_bipush (v := 8) dX1_init_29 (by decide) ?_
  refine r_newaZ (n := 8) tw162 (by decide) (by decide) (by decide) (Nat.le_of_ble_eq_true rfl) (Nat.le_of_ble_eq_true rfl) dX1_init_31 ?_
  refine r_ref (b := 29) (by decide +kernel) ?_
  refine r_mem (M' := mS63) rfl ?_
  refine r_putRF fpX1_21_1 rfl (by decide +kernel) (by decide +kernel) rfl rfl rfl dX1_init_33 ?_
  refine r_mem (M' := mS64) rfl ?_
  refine r_aload_n dX1_init_36 rfl ?_
  refine r_bipush (v := 8) dX1_init_37 (by decide) ?_
  refine r_newaZ (n := 8) tw162 (by decide) (by decide) (by decide) (Nat.le_of_ble_eq_true rfl) (Nat.le_of_ble_eq_true rfl) dX1_init_39 ?_
  refine r_ref (b := 30) (by decide +kernel) ?_
  refine r_mem (M' := mS65) rfl ?_
  refine r_putRF fpX1_25_1 rfl (by decide +kernel) (by decide +kernel) rfl rfl rfl dX1_init_41 ?_
  refine r_mem (M' := mS66) rfl ?_
  refine r_aload_n dX1_init_44 rfl ?_
  refine r_bipush (v := 8) dX1_init_45 (by decide) ?_
  refine r_newaI (n := 8) tw90 (by decide) (by decide) (by decide) (Nat.le_of_ble_eq_true rfl) (Nat.le_of_ble_eq_true rfl) dX1_init_47 ?_
  refine r_ref (b := 31) (by decide +kernel) ?_
  refine r_mem (M' := mS67) rfl ?_
  refine r_putRF fpX1_28_1 rfl (by decide +kernel) (by decide +kernel) rfl rfl rfl dX1_init_49 ?_
  refine r_mem (M' := mS68) rfl ?_
  refine r_aload_n dX1_init_52 rfl ?_
  refine r_iconst (v := 0) dX1_init_53 (by decide) ?_
  refine r_putI fpX1_31_1 rfl (by decide +kernel) (by decide +kernel) rfl rfl dX1_init_54 ?_
  refine r_mem (M' := mS69) rfl ?_
  refine r_aload_n dX1_init_57 rfl ?_
  refine r_iconst (v := 0) dX1_init_58 (by decide) ?_
  refine r_putI fpX1_35_1 rfl (by decide +kernel) (by decide +kernel) rfl rfl dX1_init_59 ?_
  refine r_mem (M' := mS70) rfl ?_
  exact r_ret dX1_init_62 ⟨rfl, rfl⟩
set_option maxHeartbeats 4000000 in
set_option maxRecDepth 100000 in
theorem kX8_init_0 (g : Gx) : Ct g yX8_init cX8_init 2 none rmX8_init [.ref (g.1 + 0)] mS0 (pV fun M' => M' = mS109) := by
  refine Ct.of rfl (Nat.le_of_ble_eq_true rfl) (fun x => ?_)
  refine r_aload_n dX8_init_0 rfl ?_
  refine r_objInit tw70 tw71 tw72 (Nat.le_of_ble_eq_true rfl) (Nat.le_of_ble_eq_true rfl) dX8_init_1 ?_
  refine r_aload_n dX8_init_4 rfl ?_
  refine r_new nwX8_9 (Nat.le_of_ble_eq_true rfl) (Nat.le_of_ble_eq_true rfl) dX8_init_5 ?_
  refine r_ref (b := 1) (by decide +kernel) ?_
  refine r_mem (M' := mS1) rfl ?_
  refine r_dup dX8_init_8 rfl ?_
  refine r_cIN0v ciX8_11 (kX4_init_1 g) (by decide +kernel) ⟨Nat.le_of_ble_eq_true rfl, Nat.le_of_ble_eq_true rfl⟩ (Nat.le_of_ble_eq_true rfl) ⟨Nat.le_of_ble_eq_true rfl, Nat.le_of_ble_eq_true rfl⟩ dX8_init_9 (fun M' hq => ?_)
  subst hq
  refine r_putRF fpX8_12_8 rfl (by decide +kernel) (by decide +kernel) rfl rfl rfl dX8_init_12 ?_
  refine r_mem (M' := mS5) rfl ?_
  refine r_aload_n dX8_init_15 rfl ?_
  refine r_new nwX8_16 (Nat.le_of_ble_eq_true rfl) (Nat.le_of_ble_eq_true rfl) dX8_init_16 ?_
  refine r_ref (b := 3) (by decide +kernel) ?_
  refine r_mem (M' := mS6) rfl ?_
  refine r_dup dX8_init_19 rfl ?_
  refine r_cIN0v ciX8_18 (kX5_init_3 g) (by decide +kernel) ⟨Nat.le_of_ble_eq_true rfl, Nat.le_of_ble_eq_true rfl⟩ (Nat.le_of_ble_eq_true rfl) ⟨Nat.le_of_ble_eq_true rfl, Nat.le_of_ble_eq_true rfl⟩ dX8_init_20 (fun M' hq => ?_)
  subst hq
  refine r_putRF fpX8_19_8 rfl (by decide +kernel) (by decide +kernel) rfl rfl rfl dX8_init_23 ?_
  refine r_mem (M' := mS17) rfl ?_
  refine r_aload_n dX8_init_26 rfl ?_
  refine r_bipush (v := 8) dX8_init_27 (by decide) ?_
  refine r_newaT (n := 8) tw121 (by decide) (by decide) (by decide) (Nat.le_of_ble_eq_true rfl) (Nat.le_of_ble_eq_true rfl) dX8_init_29 ?_
  refine r_ref (b := 8) (by decide +kernel) ?_
  refine r_mem (M' := mS18) rfl ?_
  refine r_putRF fpX8_25_8 rfl (by decide +kernel) (by decide +kernel) rfl rfl rfl dX8_init_32 ?_
  refine r_mem (M' := mS19) rfl ?_
  refine r_aload_n dX8_init_35 rfl ?_
  refine r_bipush (v := 8) dX8_init_36 (by decide) ?_
  refine r_newaI (n := 8) tw90 (by decide) (by decide) (by decide) (Nat.le_of_ble_eq_true rfl) (Nat.le_of_ble_eq_true rfl) dX8_init_38 ?_
  refine r_ref (b := 9) (by decide +kernel) ?_
  refine r_mem (M' := mS20) rfl ?_
  refine r_putRF fpX8_29_8 rfl (by decide +kernel) (by decide +kernel) rfl rfl rfl dX8_init_40 ?_
  refine r_mem (M' := mS21) rfl ?_
  refine r_aload_n dX8_init_43 rfl ?_
  refine r_bipush (v := 8) dX8_init_44 (by decide) ?_
  refine r_newaI (n := 8) tw90 (by decide) (by decide) (by decide) (Nat.le_of_ble_eq_true rfl) (Nat.le_of_ble_eq_true rfl) dX8_init_46 ?_
  refine r_ref (b := 10) (by decide +kernel) ?_
  refine r_mem (M' := mS22) rfl ?_
  refine r_putRF fpX8_33_8 rfl (by decide +kernel) (by decide +kernel) rfl rfl rfl dX8_init_48 ?_
  refine r_mem (M' := mS23) rfl ?_
  refine r_aload_n dX8_init_51 rfl ?_
  refine r_new nwX8_36 (Nat.le_of_ble_eq_true rfl) (Nat.le_of_ble_eq_true rfl) dX8_init_52 ?_
  refine r_ref (b := 11) (by decide +kernel) ?_
  refine r_mem (M' := mS24) rfl ?_
  refine r_dup dX8_init_55 rfl ?_
  refine r_cIN0v ciX8_38 (kX1_init_11 g) (by decide +kernel) ⟨Nat.le_of_ble_eq_true rfl, Nat.le_of_ble_eq_true rfl⟩ (Nat.le_of_ble_eq_true rfl) ⟨Nat.le_of_ble_eq_true rfl, Nat.le_of_ble_eq_true rfl⟩ dX8_init_56 (fun M' hq => ?_)
  subst hq
  refine r_putRF fpX8_39_8 rfl (by decide +kernel) (by decide +kernel) rfl rfl rfl dX8_init_59 ?_
  refine r_mem (M' := mS39) rfl ?_
  refine r_aload_n dX8_init_62 rfl ?_
  refine r_new nwX8_36 (Nat.le_of_ble_eq_true rfl) (Nat.le_of_ble_eq_true rfl) dX8_init_63 ?_
  refine r_ref (b := 18) (by decide +kernel) ?_
  refine r_mem (M' := mS40) rfl ?_
  refine r_dup dX8_init_66 rfl ?_
  refine r_cIN0v ciX8_38 (kX1_init_18 g) (by decide +kernel) ⟨Nat.le_of_ble_eq_true rfl, Nat.le_of_ble_eq_true rfl⟩ (Nat.le_of_ble_eq_true rfl) ⟨Nat.le_of_ble_eq_true rfl, Nat.le_of_ble_eq_true rfl⟩ dX8_init_67 (fun M' hq => ?_)
  subst hq
  refine r_putRF fpX8_43_8 rfl (by decide +kernel) (by decide +kernel) rfl rfl rfl dX8_init_70 ?_
  refine r_mem (M' := mS55) rfl ?_
  refine r_aload_n dX8_init_73 rfl ?_
  refine r_new nwX8_36 (Nat.le_of_ble_eq_true rfl) (Nat.le_of_ble_eq_true rfl) dX8_init_74 ?_
  refine r_ref (b := 25) (by decide +kernel) ?_
  refine r_mem (M' := mS56) rfl ?_
  refine r_dup dX8_init_77 rfl ?_
  refine r_cIN0v ciX8_38 (kX1_init_25 g) (by decide +kernel) ⟨Nat.le_of_ble_eq_true rfl, Nat.le_of_ble_eq_true rfl⟩ (Nat.le_of_ble_eq_true rfl) ⟨Nat.le_of_ble_eq_true rfl, Nat.le_of_ble_eq_true rfl⟩ dX8_init_78 (fun M' hq => ?_)
  subst hq
  refine r_putRF fpX8_46_8 rfl (by decide +kernel) (by decide +kernel) rfl rfl rfl dX8_init_81 ?_
  refine r_mem (M' := mS71) rfl ?_
  refine r_aload_n dX8_init_84 rfl ?_
  refine r_bipush (v := 8) dX8_init_85 (by decide) ?_
  refine r_newaJ (n := 8) tw181 (by decide) (by decide) (by decide) (Nat.le_of_ble_eq_true rfl) (Nat.le_of_ble_eq_true rfl) dX8_init_87 ?_
  refine r_ref (b := 32) (by decide +kernel) ?_
  refine r_mem (M' := mS72) rfl ?_
  refine r_putRF fpX8_49_8 rfl (by decide +kernel) (by decide +kernel) rfl rfl rfl dX8_init_89 ?_
  refine r_mem (M' := mS73) rfl ?_
  refine r_aload_n dX8_init_92 rfl ?_
  refine r_bipush (v := 8) dX8_init_93 (by decide) ?_
  refine r_newaI (n := 8) tw90 (by decide) (by decide) (by decide) (Nat.le_of_ble_eq_true rfl) (Nat.le_of_ble_eq_true rfl) dX8_init_95 ?_
  refine r_ref (b := 33) (by decide +kernel) ?_
  refine r_mem (M' := mS74) rfl ?_
  refine r_putRF fpX8_53_8 rfl (by decide +kernel) (by decide +kernel) rfl rfl rfl dX8_init_97 ?_
  refine r_mem (M' := mS75) rfl ?_
  refine r_aload_n dX8_init_100 rfl ?_
  refine r_sipush (v := 256) dX8_init_101 (by decide) ?_
  refine r_newaI (n := 256) tw90 (by decide) (by decide) (by decide) (Nat.le_of_ble_eq_true rfl) (Nat.le_of_ble_eq_true rfl) dX8_init_104 ?_
  refine r_ref (b := 34) (by decide +kernel) ?_
  refine r_mem (M' := mS76) rfl ?_
  refine r_putRF fpX8_56_8 rfl (by decide +kernel) (by decide +kernel) rfl rfl rfl dX8_init_106 ?_
  refine r_mem (M' := mS77) rfl ?_
  refine r_aload_n dX8_init_109 rfl ?_
  refine r_sipush (v := 256) dX8_init_110 (by decide) ?_
  refine r_newaI (n := 256) tw90 (by decide) (by decide) (by decide) (Nat.le_of_ble_eq_true rfl) (Nat.le_of_ble_eq_true rfl) dX8_init_113 ?_
  refine r_ref (b := 35) (by decide +kernel) ?_
  refine r_mem (M' := mS78) rfl ?_
  refine r_putRF fpX8_59_8 rfl (by decide +kernel) (by decide +kernel) rfl rfl rfl dX8_init_115 ?_
  refine r_mem (M' := mS79) rfl ?_
  refine r_aload_n dX8_init_118 rfl ?_
  refine r_iconst (v := 0) dX8_init_119 (by decide) ?_
  refine r_putI fpX8_62_8 rfl (by decide +kernel) (by decide +kernel) rfl rfl dX8_init_120 ?_
  refine r_mem (M' := mS80) rfl ?_
  refine r_aload_n dX8_init_123 rfl ?_
  refine r_iconst (v := 0) dX8_init_124 (by decide) ?_
  refine r_putI fpX8_66_8 rfl (by decide +kernel) (by decide +kernel) rfl rfl dX8_init_125 ?_
  refine r_mem (M' := mS81) rfl ?_
  refine r_aload_n dX8_init_128 rfl ?_
  refine r_iconst (v := 0) dX8_init_129 (by decide) ?_
  refine r_putI fpX8_69_8 rfl (by decide +kernel) (by decide +kernel) rfl rfl dX8_init_130 ?_
  refine r_mem (M' := mS82) rfl ?_
  refine r_aload_n dX8_init_133 rfl ?_
  refine r_iconst (v := 0) dX8_init_134 (by decide) ?_
  refine r_putI fpX8_72_8 rfl (by decide +kernel) (by decide +kernel) rfl rfl dX8_init_135 ?_
  refine r_mem (M' := mS83) rfl ?_
  refine r_aload_n dX8_init_138 rfl ?_
  refine r_iconst (v := 0) dX8_init_139 (by decide) ?_
  refine r_putI fpX8_76_8 rfl (by decide +kernel) (by decide +kernel) rfl rfl dX8_init_140 ?_
  refine r_mem (M' := mS84) rfl ?_
  refine r_aload_n dX8_init_143 rfl ?_
  refine r_iconst (v := 0) dX8_init_144 (by decide) ?_
  refine r_putI fpX8_79_8 rfl (by decide +kernel) (by decide +kernel) rfl rfl dX8_init_145 ?_
  refine r_mem (M' := mS85) rfl ?_
  refine r_iconst (v := 0) dX8_init_148 (by decide) ?_
  refine r_istore_n dX8_init_149 (by decide) rfl ?_
  refine r_iload_n dX8_init_150 rfl ?_
  refine r_bipush (v := 8) dX8_init_151 (by decide) ?_
  refine r_icmp_ge 178 dX8_init_153 (by decide) (fun c153 => ?_) (fun c153 => ?_)
  · exact absurd c153 (by decide)
  refine r_aload_n dX8_init_156 rfl ?_
  refine r_getR flX8_25_8 rfl (by decide +kernel) (by decide +kernel) (j := 8) (by decide +kernel) dX8_init_157 ?_
  refine r_iload_n dX8_init_160 rfl ?_
  refine r_new nwX8_23 (Nat.le_of_ble_eq_true rfl) (Nat.le_of_ble_eq_true rfl) dX8_init_161 ?_
  refine r_ref (b := 36) (by decide +kernel) ?_
  refine r_mem (M' := mS86) rfl ?_
  refine r_dup dX8_init_164 rfl ?_
  refine r_iconst (v := 0) dX8_init_165 (by decide) ?_
  refine r_iconst (v := 1) dX8_init_166 (by decide) ?_
  refine r_iconst (v := 0) dX8_init_167 (by decide) ?_
  refine r_cI3v ciX8_82 (kX7_init g mS86 36 (by decide +kernel) (Or.inl (by decide +kernel)) (0) (1) (0)) (by decide +kernel) ⟨Nat.le_of_ble_eq_true rfl, Nat.le_of_ble_eq_true rfl⟩ (Nat.le_of_ble_eq_true rfl) ⟨Nat.le_of_ble_eq_true rfl, Nat.le_of_ble_eq_true rfl⟩ dX8_init_168 (fun M' hq => ?_)
  subst hq
  refine r_mem (M' := mS87) rfl ?_
  refine r_aasTh (n := 8) (by decide +kernel) (by decide +kernel) (by decide +kernel) (Or.inl (by decide +kernel)) (ix_of (j := 0) rfl (by decide) (by decide)) dX8_init_171 ?_
  refine r_mem (M' := mS88) rfl ?_
  refine r_iinc dX8_init_172 rfl (w := 1) (by decide) rfl ?_
  refine r_goto 150 dX8_init_175 (by decide) ?_
  refine r_iload_n dX8_init_150 rfl ?_
  refine r_bipush (v := 8) dX8_init_151 (by decide) ?_
  refine r_icmp_ge 178 dX8_init_153 (by decide) (fun c153 => ?_) (fun c153 => ?_)
  · exact absurd c153 (by decide)
  refine r_aload_n dX8_init_156 rfl ?_
  refine r_getR flX8_25_8 rfl (by decide +kernel) (by decide +kernel) (j := 8) (by decide +kernel) dX8_init_157 ?_
  refine r_iload_n dX8_init_160 rfl ?_
  refine r_new nwX8_23 (Nat.le_of_ble_eq_true rfl) (Nat.le_of_ble_eq_true rfl) dX8_init_161 ?_
  refine r_ref (b := 37) (by decide +kernel) ?_
  refine r_mem (M' := mS89) rfl ?_
  refine r_dup dX8_init_164 rfl ?_
  refine r_iconst (v := 0) dX8_init_165 (by decide) ?_
  refine r_iconst (v := 1) dX8_init_166 (by decide) ?_
  refine r_iconst (v := 0) dX8_init_167 (by decide) ?_
  refine r_cI3v ciX8_82 (kX7_init g mS89 37 (by decide +kernel) (Or.inl (by decide +kernel)) (0) (1) (0)) (by decide +kernel) ⟨Nat.le_of_ble_eq_true rfl, Nat.le_of_ble_eq_true rfl⟩ (Nat.le_of_ble_eq_true rfl) ⟨Nat.le_of_ble_eq_true rfl, Nat.le_of_ble_eq_true rfl⟩ dX8_init_168 (fun M' hq => ?_)
  subst hq
  refine r_mem (M' := mS90) rfl ?_
  refine r_aasTh (n := 8) (by decide +kernel) (by decide +kernel) (by decide +kernel) (Or.inl (by decide +kernel)) (ix_of (j := 1) rfl (by decide) (by decide)) dX8_init_171 ?_
  refine r_mem (M' := mS91) rfl ?_
  refine r_iinc dX8_init_172 rfl (w := 2) (by decide) rfl ?_
  refine r_goto 150 dX8_init_175 (by decide) ?_
  refine r_iload_n dX8_init_150 rfl ?_
  refine r_bipush (v := 8) dX8_init_151 (by decide) ?_
  refine r_icmp_ge 178 dX8_init_153 (by decide) (fun c153 => ?_) (fun c153 => ?_)
  · exact absurd c153 (by decide)
  refine r_aload_n dX8_init_156 rfl ?_
  refine r_getR flX8_25_8 rfl (by decide +kernel) (by decide +kernel) (j := 8) (by decide +kernel) dX8_init_157 ?_
  refine r_iload_n dX8_init_160 rfl ?_
  refine r_new nwX8_23 (Nat.le_of_ble_eq_true rfl) (Nat.le_of_ble_eq_true rfl) dX8_init_161 ?_
  refine r_ref (b := 38) (by decide +kernel) ?_
  refine r_mem (M' := mS92) rfl ?_
  refine r_dup dX8_init_164 rfl ?_
  refine r_iconst (v := 0) dX8_init_165 (by decide) ?_
  refine r_iconst (v := 1) dX8_init_166 (by decide) ?_
  refine r_iconst (v := 0) dX8_init_167 (by decide) ?_
  refine r_cI3v ciX8_82 (kX7_init g mS92 38 (by decide +kernel) (Or.inl (by decide +kernel)) (0) (1) (0)) (by decide +kernel) ⟨Nat.le_of_ble_eq_true rfl, Nat.le_of_ble_eq_true rfl⟩ (Nat.le_of_ble_eq_true rfl) ⟨Nat.le_of_ble_eq_true rfl, Nat.le_of_ble_eq_true rfl⟩ dX8_init_168 (fun M' hq => ?_)
  subst hq
  refine r_mem (M' := mS93) rfl ?_
  refine r_aasTh (n := 8) (by decide +kernel) (by decide +kernel) (by decide +kernel) (Or.inl (by decide +kernel)) (ix_of (j := 2) rfl (by decide) (by decide)) dX8_init_171 ?_
  refine r_mem (M' := mS94) rfl ?_
  refine r_iinc dX8_init_172 rfl (w := 3) (by decide) rfl ?_
  refine r_goto 150 dX8_init_175 (by decide) ?_
  refine r_iload_n dX8_init_150 rfl ?_
  refine r_bipush (v := 8) dX8_init_151 (by decide) ?_
  refine r_icmp_ge 178 dX8_init_153 (by decide) (fun c153 => ?_) (fun c153 => ?_)
  · exact absurd c153 (by decide)
  refine r_aload_n dX8_init_156 rfl ?_
  refine r_getR flX8_25_8 rfl (by decide +kernel) (by decide +kernel) (j := 8) (by decide +kernel) dX8_init_157 ?_
  refine r_iload_n dX8_init_160 rfl ?_
  refine r_new nwX8_23 (Nat.le_of_ble_eq_true rfl) (Nat.le_of_ble_eq_true rfl) dX8_init_161 ?_
  refine r_ref (b := 39) (by decide +kernel) ?_
  refine r_mem (M' := mS95) rfl ?_
  refine r_dup dX8_init_164 rfl ?_
  refine r_iconst (v := 0) dX8_init_165 (by decide) ?_
  refine r_iconst (v := 1) dX8_init_166 (by decide) ?_
  refine r_iconst (v := 0) dX8_init_167 (by decide) ?_
  refine r_cI3v ciX8_82 (kX7_init g mS95 39 (by decide +kernel) (Or.inl (by decide +kernel)) (0) (1) (0)) (by decide +kernel) ⟨Nat.le_of_ble_eq_true rfl, Nat.le_of_ble_eq_true rfl⟩ (Nat.le_of_ble_eq_true rfl) ⟨Nat.le_of_ble_eq_true rfl, Nat.le_of_ble_eq_true rfl⟩ dX8_init_168 (fun M' hq => ?_)
  subst hq
  refine r_mem (M' := mS96) rfl ?_
  refine r_aasTh (n := 8) (by decide +kernel) (by decide +kernel) (by decide +kernel) (Or.inl (by decide +kernel)) (ix_of (j := 3) rfl (by decide) (by decide)) dX8_init_171 ?_
  refine r_mem (M' := mS97) rfl ?_
  refine r_iinc dX8_init_172 rfl (w := 4) (by decide) rfl ?_
  refine r_goto 150 dX8_init_175 (by decide) ?_
  refine r_iload_n dX8_init_150 rfl ?_
  refine r_bipush (v := 8) dX8_init_151 (by decide) ?_
  refine r_icmp_ge 178 dX8_init_153 (by decide) (fun c153 => ?_) (fun c153 => ?_)
  · exact absurd c153 (by decide)
  refine r_aload_n dX8_init_156 rfl ?_
  refine r_getR flX8_25_8 rfl (by decide +kernel) (by decide +kernel) (j := 8) (by decide +kernel) dX8_init_157 ?_
  refine r_iload_n dX8_init_160 rfl ?_
  refine r_new nwX8_23 (Nat.le_of_ble_eq_true rfl) (Nat.le_of_ble_eq_true rfl) dX8_init_161 ?_
  refine r_ref (b := 40) (by decide +kernel) ?_
  refine r_mem (M' := mS98) rfl ?_
  refine r_dup dX8_init_164 rfl ?_
  refine r_iconst (v := 0) dX8_init_165 (by decide) ?_
  refine r_iconst (v := 1) dX8_init_166 (by decide) ?_
  refine r_iconst (v := 0) dX8_init_167 (by decide) ?_
  refine r_cI3v ciX8_82 (kX7_init g mS98 40 (by decide +kernel) (Or.inl (by decide +kernel)) (0) (1) (0)) (by decide +kernel) ⟨Nat.le_of_ble_eq_true rfl, Nat.le_of_ble_eq_true rfl⟩ (Nat.le_of_ble_eq_true rfl) ⟨Nat.le_of_ble_eq_true rfl, Nat.le_of_ble_eq_true rfl⟩ dX8_init_168 (fun M' hq => ?_)
  subst hq
  refine r_mem (M' := mS99) rfl ?_
  refine r_aasTh (n := 8) (by decide +kernel) (by decide +kernel) (by decide +kernel) (Or.inl (by decide +kernel)) (ix_of (j := 4) rfl (by decide) (by decide)) dX8_init_171 ?_
  refine r_mem (M' := mS100) rfl ?_
  refine r_iinc dX8_init_172 rfl (w := 5) (by decide) rfl ?_
  refine r_goto 150 dX8_init_175 (by decide) ?_
  refine r_iload_n dX8_init_150 rfl ?_
  refine r_bipush (v := 8) dX8_init_151 (by decide) ?_
  refine r_icmp_ge 178 dX8_init_153 (by decide) (fun c153 => ?_) (fun c153 => ?_)
  · exact absurd c153 (by decide)
  refine r_aload_n dX8_init_156 rfl ?_
  refine r_getR flX8_25_8 rfl (by decide +kernel) (by decide +kernel) (j := 8) (by decide +kernel) dX8_init_157 ?_
  refine r_iload_n dX8_init_160 rfl ?_
  refine r_new nwX8_23 (Nat.le_of_ble_eq_true rfl) (Nat.le_of_ble_eq_true rfl) dX8_init_161 ?_
  refine r_ref (b := 41) (by decide +kernel) ?_
  refine r_mem (M' := mS101) rfl ?_
  refine r_dup dX8_init_164 rfl ?_
  refine r_iconst (v := 0) dX8_init_165 (by decide) ?_
  refine r_iconst (v := 1) dX8_init_166 (by decide) ?_
  refine r_iconst (v := 0) dX8_init_167 (by decide) ?_
  refine r_cI3v ciX8_82 (kX7_init g mS101 41 (by decide +kernel) (Or.inl (by decide +kernel)) (0) (1) (0)) (by decide +kernel) ⟨Nat.le_of_ble_eq_true rfl, Nat.le_of_ble_eq_true rfl⟩ (Nat.le_of_ble_eq_true rfl) ⟨Nat.le_of_ble_eq_true rfl, Nat.le_of_ble_eq_true rfl⟩ dX8_init_168 (fun M' hq => ?_)
  subst hq
  refine r_mem (M' := mS102) rfl ?_
  refine r_aasTh (n := 8) (by decide +kernel) (by decide +kernel) (by decide +kernel) (Or.inl (by decide +kernel)) (ix_of (j := 5) rfl (by decide) (by decide)) dX8_init_171 ?_
  refine r_mem (M' := mS103) rfl ?_
  refine r_iinc dX8_init_172 rfl (w := 6) (by decide) rfl ?_
  refine r_goto 150 dX8_init_175 (by decide) ?_
  refine r_iload_n dX8_init_150 rfl ?_
  refine r_bipush (v := 8) dX8_init_151 (by decide) ?_
  refine r_icmp_ge 178 dX8_init_153 (by decide) (fun c153 => ?_) (fun c153 => ?_)
  · exact absurd c153 (by decide)
  refine r_aload_n dX8_init_156 rfl ?_
  refine r_getR flX8_25_8 rfl (by decide +kernel) (by decide +kernel) (j := 8) (by decide +kernel) dX8_init_157 ?_
  refine r_iload_n dX8_init_160 rfl ?_
  refine r_new nwX8_23 (Nat.le_of_ble_eq_true rfl) (Nat.le_of_ble_eq_true rfl) dX8_init_161 ?_
  refine r_ref (b := 42) (by decide +kernel) ?_
  refine r_mem (M' := mS104) rfl ?_
  refine r_dup dX8_init_164 rfl ?_
  refine r_iconst (v := 0) dX8_init_165 (by decide) ?_
  refine r_iconst (v := 1) dX8_init_166 (by decide) ?_
  refine r_iconst (v := 0) dX8_init_167 (by decide) ?_
  refine r_cI3v ciX8_82 (kX7_init g mS104 42 (by decide +kernel) (Or.inl (by decide +kernel)) (0) (1) (0)) (by decide +kernel) ⟨Nat.le_of_ble_eq_true rfl, Nat.le_of_ble_eq_true rfl⟩ (Nat.le_of_ble_eq_true rfl) ⟨Nat.le_of_ble_eq_true rfl, Nat.le_of_ble_eq_true rfl⟩ dX8_init_168 (fun M' hq => ?_)
  subst hq
  refine r_mem (M' := mS105) rfl ?_
  refine r_aasTh (n := 8) (by decide +kernel) (by decide +kernel) (by decide +kernel) (Or.inl (by decide +kernel)) (ix_of (j := 6) rfl (by decide) (by decide)) dX8_init_171 ?_
  refine r_mem (M' := mS106) rfl ?_
  refine r_iinc dX8_init_172 rfl (w := 7) (by decide) rfl ?_
  refine r_goto 150 dX8_init_175 (by decide) ?_
  refine r_iload_n dX8_init_150 rfl ?_
  refine r_bipush (v := 8) dX8_init_151 (by decide) ?_
  refine r_icmp_ge 178 dX8_init_153 (by decide) (fun c153 => ?_) (fun c153 => ?_)
  · exact absurd c153 (by decide)
  refine r_aload_n dX8_init_156 rfl ?_
  refine r_getR flX8_25_8 rfl (by decide +kernel) (by decide +kernel) (j := 8) (by decide +kernel) dX8_init_157 ?_
  refine r_iload_n dX8_init_160 rfl ?_
  refine r_new nwX8_23 (Nat.le_of_ble_eq_true rfl) (Nat.le_of_ble_eq_true rfl) dX8_init_161 ?_
  refine r_ref (b := 43) (by decide +kernel) ?_
  refine r_mem (M' := mS107) rfl ?_
  refine r_dup dX8_init_164 rfl ?_
  refine r_iconst (v := 0) dX8_init_165 (by decide) ?_
  refine r_iconst (v := 1) dX8_init_166 (by decide) ?_
  refine r_iconst (v := 0) dX8_init_167 (by decide) ?_
  refine r_cI3v ciX8_82 (kX7_init g mS107 43 (by decide +kernel) (Or.inl (by decide +kernel)) (0) (1) (0)) (by decide +kernel) ⟨Nat.le_of_ble_eq_true rfl, Nat.le_of_ble_eq_true rfl⟩ (Nat.le_of_ble_eq_true rfl) ⟨Nat.le_of_ble_eq_true rfl, Nat.le_of_ble_eq_true rfl⟩ dX8_init_168 (fun M' hq => ?_)
  subst hq
  refine r_mem (M' := mS108) rfl ?_
  refine r_aasTh (n := 8) (by decide +kernel) (by decide +kernel) (by decide +kernel) (Or.inl (by decide +kernel)) (ix_of (j := 7) rfl (by decide) (by decide)) dX8_init_171 ?_
  refine r_mem (M' := mS109) rfl ?_
  refine r_iinc dX8_init_172 rfl (w := 8) (by decide) rfl ?_
  refine r_goto 150 dX8_init_175 (by decide) ?_
  refine r_iload_n dX8_init_150 rfl ?_
  refine r_bipush (v := 8) dX8_init_151 (by decide) ?_
  refine r_icmp_ge 178 dX8_init_153 (by decide) (fun c153 => ?_) (fun c153 => ?_)
  rotate_left
  · exact absurd (by decide) c153
  exact r_ret dX8_init_178 ⟨rfl, rfl⟩
set_option maxHeartbeats 4000000 in
set_option maxRecDepth 100000 in
theorem kX9_init_44 (g : Gx) : Ct g yX9_init cX9_init 1 none rmX9_init [.ref (g.1 + 44)] mS00 (pV fun M' => M' = mS138) := by
  refine Ct.of rfl (Nat.le_of_ble_eq_true rfl) (fun x => ?_)
  refine r_aload_n dX9_init_0 rfl ?_
  refine r_objInit tw638 tw71 tw72 (Nat.le_of_ble_eq_true rfl) (Nat.le_of_ble_eq_true rfl) dX9_init_1 ?_
  refine r_aload_n dX9_init_4 rfl ?_
  refine r_bipush (v := 40) dX9_init_5 (by decide) ?_
  refine r_newaI (n := 40) tw90 (by decide) (by decide) (by decide) (Nat.le_of_ble_eq_true rfl) (Nat.le_of_ble_eq_true rfl) dX9_init_7 ?_
  refine r_ref (b := 45) (by decide +kernel) ?_
  refine r_mem (M' := mS110) rfl ?_
  refine r_putRF fpX9_7_9 rfl (by decide +kernel) (by decide +kernel) rfl rfl rfl dX9_init_9 ?_
  refine r_mem (M' := mS111) rfl ?_
  refine r_aload_n dX9_init_12 rfl ?_
  refine r_bipush (v := 32) dX9_init_13 (by decide) ?_
  refine r_newaI (n := 32) tw90 (by decide) (by decide) (by decide) (Nat.le_of_ble_eq_true rfl) (Nat.le_of_ble_eq_true rfl) dX9_init_15 ?_
  refine r_ref (b := 46) (by decide +kernel) ?_
  refine r_mem (M' := mS112) rfl ?_
  refine r_putRF fpX9_13_9 rfl (by decide +kernel) (by decide +kernel) rfl rfl rfl dX9_init_17 ?_
  refine r_mem (M' := mS113) rfl ?_
  refine r_aload_n dX9_init_20 rfl ?_
  refine r_bipush (v := 32) dX9_init_21 (by decide) ?_
  refine r_newaI (n := 32) tw90 (by decide) (by decide) (by decide) (Nat.le_of_ble_eq_true rfl) (Nat.le_of_ble_eq_true rfl) dX9_init_23 ?_
  refine r_ref (b := 47) (by decide +kernel) ?_
  refine r_mem (M' := mS114) rfl ?_
  refine r_putRF fpX9_16_9 rfl (by decide +kernel) (by decide +kernel) rfl rfl rfl dX9_init_25 ?_
  refine r_mem (M' := mS115) rfl ?_
  refine r_aload_n dX9_init_28 rfl ?_
  refine r_bipush (v := 8) dX9_init_29 (by decide) ?_
  refine r_newaI (n := 8) tw90 (by decide) (by decide) (by decide) (Nat.le_of_ble_eq_true rfl) (Nat.le_of_ble_eq_true rfl) dX9_init_31 ?_
  refine r_ref (b := 48) (by decide +kernel) ?_
  refine r_mem (M' := mS116) rfl ?_
  refine r_putRF fpX9_19_9 rfl (by decide +kernel) (by decide +kernel) rfl rfl rfl dX9_init_33 ?_
  refine r_mem (M' := mS117) rfl ?_
  refine r_aload_n dX9_init_36 rfl ?_
  refine r_bipush (v := 8) dX9_init_37 (by decide) ?_
  refine r_newaI (n := 8) tw90 (by decide) (by decide) (by decide) (Nat.le_of_ble_eq_true rfl) (Nat.le_of_ble_eq_true rfl) dX9_init_39 ?_
  refine r_ref (b := 49) (by decide +kernel) ?_
  refine r_mem (M' := mS118) rfl ?_
  refine r_putRF fpX9_22_9 rfl (by decide +kernel) (by decide +kernel) rfl rfl rfl dX9_init_41 ?_
  refine r_mem (M' := mS119) rfl ?_
  refine r_aload_n dX9_init_44 rfl ?_
  refine r_bipush (v := 32) dX9_init_45 (by decide) ?_
  refine r_newaI (n := 32) tw90 (by decide) (by decide) (by decide) (Nat.le_of_ble_eq_true rfl) (Nat.le_of_ble_eq_true rfl) dX9_init_47 ?_
  refine r_ref (b := 50) (by decide +kernel) ?_
  refine r_mem (M' := mS120) rfl ?_
  refine r_putRF fpX9_25_9 rfl (by decide +kernel) (by decide +kernel) rfl rfl rfl dX9_init_49 ?_
  refine r_mem (M' := mS121) rfl ?_
  refine r_aload_n dX9_init_52 rfl ?_
  refine r_bipush (v := 8) dX9_init_53 (by decide) ?_
  refine r_newaI (n := 8) tw90 (by decide) (by decide) (by decide) (Nat.le_of_ble_eq_true rfl) (Nat.le_of_ble_eq_true rfl) dX9_init_55 ?_
  refine r_ref (b := 51) (by decide +kernel) ?_
  refine r_mem (M' := mS122) rfl ?_
  refine r_putRF fpX9_28_9 rfl (by decide +kernel) (by decide +kernel) rfl rfl rfl dX9_init_57 ?_
  refine r_mem (M' := mS123) rfl ?_
  refine r_aload_n dX9_init_60 rfl ?_
  refine r_bipush (v := 8) dX9_init_61 (by decide) ?_
  refine r_newaI (n := 8) tw90 (by decide) (by decide) (by decide) (Nat.le_of_ble_eq_true rfl) (Nat.le_of_ble_eq_true rfl) dX9_init_63 ?_
  refine r_ref (b := 52) (by decide +kernel) ?_
  refine r_mem (M' := mS124) rfl ?_
  refine r_putRF fpX9_31_9 rfl (by decide +kernel) (by decide +kernel) rfl rfl rfl dX9_init_65 ?_
  refine r_mem (M' := mS125) rfl ?_
  refine r_aload_n dX9_init_68 rfl ?_
  refine r_bipush (v := 8) dX9_init_69 (by decide) ?_
  refine r_newaJ (n := 8) tw181 (by decide) (by decide) (by decide) (Nat.le_of_ble_eq_true rfl) (Nat.le_of_ble_eq_true rfl) dX9_init_71 ?_
  refine r_ref (b := 53) (by decide +kernel) ?_
  refine r_mem (M' := mS126) rfl ?_
  refine r_putRF fpX9_34_9 rfl (by decide +kernel) (by decide +kernel) rfl rfl rfl dX9_init_73 ?_
  refine r_mem (M' := mS127) rfl ?_
  refine r_aload_n dX9_init_76 rfl ?_
  refine r_sipush (v := 256) dX9_init_77 (by decide) ?_
  refine r_newaI (n := 256) tw90 (by decide) (by decide) (by decide) (Nat.le_of_ble_eq_true rfl) (Nat.le_of_ble_eq_true rfl) dX9_init_80 ?_
  refine r_ref (b := 54) (by decide +kernel) ?_
  refine r_mem (M' := mS128) rfl ?_
  refine r_putRF fpX9_38_9 rfl (by decide +kernel) (by decide +kernel) rfl rfl rfl dX9_init_82 ?_
  refine r_mem (M' := mS129) rfl ?_
  refine r_aload_n dX9_init_85 rfl ?_
  refine r_bipush (v := 8) dX9_init_86 (by decide) ?_
  refine r_newaI (n := 8) tw90 (by decide) (by decide) (by decide) (Nat.le_of_ble_eq_true rfl) (Nat.le_of_ble_eq_true rfl) dX9_init_88 ?_
  refine r_ref (b := 55) (by decide +kernel) ?_
  refine r_mem (M' := mS130) rfl ?_
  refine r_putRF fpX9_41_9 rfl (by decide +kernel) (by decide +kernel) rfl rfl rfl dX9_init_90 ?_
  refine r_mem (M' := mS131) rfl ?_
  refine r_aload_n dX9_init_93 rfl ?_
  refine r_bipush (v := 8) dX9_init_94 (by decide) ?_
  refine r_newaI (n := 8) tw90 (by decide) (by decide) (by decide) (Nat.le_of_ble_eq_true rfl) (Nat.le_of_ble_eq_true rfl) dX9_init_96 ?_
  refine r_ref (b := 56) (by decide +kernel) ?_
  refine r_mem (M' := mS132) rfl ?_
  refine r_putRF fpX9_44_9 rfl (by decide +kernel) (by decide +kernel) rfl rfl rfl dX9_init_98 ?_
  refine r_mem (M' := mS133) rfl ?_
  refine r_aload_n dX9_init_101 rfl ?_
  refine r_bipush (v := 8) dX9_init_102 (by decide) ?_
  refine r_newaI (n := 8) tw90 (by decide) (by decide) (by decide) (Nat.le_of_ble_eq_true rfl) (Nat.le_of_ble_eq_true rfl) dX9_init_104 ?_
  refine r_ref (b := 57) (by decide +kernel) ?_
  refine r_mem (M' := mS134) rfl ?_
  refine r_putRF fpX9_47_9 rfl (by decide +kernel) (by decide +kernel) rfl rfl rfl dX9_init_106 ?_
  refine r_mem (M' := mS135) rfl ?_
  refine r_aload_n dX9_init_109 rfl ?_
  refine r_bipush (v := 32) dX9_init_110 (by decide) ?_
  refine r_newaI (n := 32) tw90 (by decide) (by decide) (by decide) (Nat.le_of_ble_eq_true rfl) (Nat.le_of_ble_eq_true rfl) dX9_init_112 ?_
  refine r_ref (b := 58) (by decide +kernel) ?_
  refine r_mem (M' := mS136) rfl ?_
  refine r_putRF fpX9_50_9 rfl (by decide +kernel) (by decide +kernel) rfl rfl rfl dX9_init_114 ?_
  refine r_mem (M' := mS137) rfl ?_
  refine r_aload_n dX9_init_117 rfl ?_
  refine r_iconst (v := -1) dX9_init_118 (by decide) ?_
  refine r_putI fpX9_53_9 rfl (by decide +kernel) (by decide +kernel) rfl rfl dX9_init_119 ?_
  refine r_mem (M' := mS138) rfl ?_
  exact r_ret dX9_init_122 ⟨rfl, rfl⟩
def mZ : Mm := mS138
