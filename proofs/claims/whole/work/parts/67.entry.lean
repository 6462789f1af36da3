/-! what the tables say at the law's entry -/
theorem arr_K {ty : FieldType} {args : Array Value} {s : State} (h : (Cond.arrayClass ty).before args s = true) : ∃ cA : ClassId, ArrOfT s cA ty ∧ s.vm.findClass ("[" ++ ty.toString) = some cA := by
  obtain ⟨c, k, comp, h1, h2, h3⟩ := Cond.arrayClass_spec h
  exact ⟨c, fun n z => ⟨fun k h => (by cases h), k, h2, comp, h3⟩, h1⟩
theorem arr_O {C : String} {args : Array Value} {s : State} (h : (Cond.arrayOver (.object C)).before args s = true) : ∃ cA : ClassId, ArrOfT s cA (.object C) ∧ va_RA s cA (.object C) := by
  obtain ⟨comp, c, k, h1, h2, h3, h4, h5⟩ := Cond.arrayOver_spec h
  exact ⟨c, fun n z => ⟨fun k h => (by cases h), k, h3, comp, h4⟩, k, comp, h3, h4, h1, h5⟩
theorem ew_n1 : Cond.methodLinkNest RX8 11 yX4_init RX8 ∈ lw_tbl := List.mem_of_getElem? (i := 75) (by decide +kernel)
theorem ew_n2 : Cond.methodLinkNest RX8 18 yX5_init RX8 ∈ lw_tbl := List.mem_of_getElem? (i := 93) (by decide +kernel)
theorem ew_n3 : Cond.methodLinkNest RX8 38 yX1_init RX8 ∈ lw_tbl := List.mem_of_getElem? (i := 125) (by decide +kernel)
theorem ew_n4 : Cond.methodLinkNest RX5 62 yX8_isHouse RX8 ∈ lw_tbl := List.mem_of_getElem? (i := 274) (by decide +kernel)
theorem ew_ao : Cond.arrayOver (.object RX7) ∈ lw_tbl := List.mem_of_getElem? (i := 122) (by decide +kernel)
theorem ew_c0 : Cond.castable RX6 RX7 ∈ lw_tbl := List.mem_of_getElem? (i := 991) (by decide +kernel)
theorem ew_c1 : Cond.castable RX0 RX7 ∈ lw_tbl := List.mem_of_getElem? (i := 992) (by decide +kernel)
theorem ew_c2 : Cond.castable RX2 RX7 ∈ lw_tbl := List.mem_of_getElem? (i := 993) (by decide +kernel)
theorem ew_c3 : Cond.castable RX3 RX7 ∈ lw_tbl := List.mem_of_getElem? (i := 994) (by decide +kernel)
theorem ew_c4 : Cond.castable RX3 RX6 ∈ lw_tbl := List.mem_of_getElem? (i := 990) (by decide +kernel)
theorem ew_x0 : Cond.not (Cond.castable RX7 RX6) ∈ flatC (Jvm.Cond.and given_1 narrow_1) := by decide +kernel
theorem ew_x1 : Cond.not (Cond.castable RX0 RX6) ∈ flatC (Jvm.Cond.and given_1 narrow_1) := by decide +kernel
theorem ew_x2 : Cond.not (Cond.castable RX2 RX6) ∈ flatC (Jvm.Cond.and given_1 narrow_1) := by decide +kernel
theorem ew_x3 : Cond.not (Cond.castable RX7 RX0) ∈ flatC (Jvm.Cond.and given_1 narrow_1) := by decide +kernel
theorem ew_x4 : Cond.not (Cond.castable RX6 RX0) ∈ flatC (Jvm.Cond.and given_1 narrow_1) := by decide +kernel
theorem ew_x5 : Cond.not (Cond.castable RX2 RX0) ∈ flatC (Jvm.Cond.and given_1 narrow_1) := by decide +kernel
theorem ew_x6 : Cond.not (Cond.castable RX3 RX0) ∈ flatC (Jvm.Cond.and given_1 narrow_1) := by decide +kernel
theorem ew_x7 : Cond.not (Cond.castable RX7 RX2) ∈ flatC (Jvm.Cond.and given_1 narrow_1) := by decide +kernel
theorem ew_x8 : Cond.not (Cond.castable RX6 RX2) ∈ flatC (Jvm.Cond.and given_1 narrow_1) := by decide +kernel
theorem ew_x9 : Cond.not (Cond.castable RX0 RX2) ∈ flatC (Jvm.Cond.and given_1 narrow_1) := by decide +kernel
theorem ew_x10 : Cond.not (Cond.castable RX3 RX2) ∈ flatC (Jvm.Cond.and given_1 narrow_1) := by decide +kernel
theorem ew_x11 : Cond.not (Cond.castable RX7 RX3) ∈ flatC (Jvm.Cond.and given_1 narrow_1) := by decide +kernel
theorem ew_x12 : Cond.not (Cond.castable RX6 RX3) ∈ flatC (Jvm.Cond.and given_1 narrow_1) := by decide +kernel
theorem ew_x13 : Cond.not (Cond.castable RX0 RX3) ∈ flatC (Jvm.Cond.and given_1 narrow_1) := by decide +kernel
theorem ew_x14 : Cond.not (Cond.castable RX2 RX3) ∈ flatC (Jvm.Cond.and given_1 narrow_1) := by decide +kernel
set_option maxHeartbeats 4000000 in
set_option maxRecDepth 100000 in
theorem ev_start {b : Nat} {s : State} (hts : ∀ w ∈ lw_tbl, w.before #[Value.ref b] s = true) (hgv : (Jvm.Cond.and given_1 narrow_1).before #[Value.ref b] s = true) : ∃ g : Gx, g.1 = s.heap.size ∧ Ev g s := by
  have htb : ∀ w ∈ TB, w.before #[Value.ref b] s = true := fun w hw => hts w (tb_lw hw)
  have hfl := flat_of_before _ hgv
  obtain ⟨c0, i0, k0⟩ := u_known (C := RX0) (T := TX0) (N := 3) (n := 3) htb inX0 (htb _ tw311)
  obtain ⟨c1, i1, k1⟩ := u_known (C := RX1) (T := TX1) (N := 8) (n := 8) htb inX1 (htb _ tw124)
  obtain ⟨c2, i2, k2⟩ := u_known (C := RX2) (T := TX2) (N := 3) (n := 3) htb inX2 (htb _ tw321)
  obtain ⟨c3, i3, k3⟩ := u_known (C := RX3) (T := TX3) (N := 3) (n := 3) htb inX3 (htb _ tw331)
  obtain ⟨c4, i4, k4⟩ := u_known (C := RX4) (T := TX4) (N := 2) (n := 2) htb inX4 (htb _ tw74)
  obtain ⟨c5, i5, k5⟩ := u_known (C := RX5) (T := TX5) (N := 6) (n := 6) htb inX5 (htb _ tw92)
  obtain ⟨c6, i6, k6⟩ := u_known (C := RX6) (T := TX6) (N := 3) (n := 3) htb inX6 (htb _ tw301)
  obtain ⟨c7, i7, k7⟩ := u_known (C := RX7) (T := TX7) (N := 3) (n := 3) htb inX7 (htb _ tw163)
  obtain ⟨c8, i8, k8⟩ := u_known (C := RX8) (T := TX8) (N := 18) (n := 18) htb inX8 (htb _ tw66)
  obtain ⟨c9, i9, k9⟩ := u_known (C := RX9) (T := TX9) (N := 32) (n := 32) htb inX9 (htb _ tw634)
  obtain ⟨cI, aI, bI⟩ := arr_K (htb _ tw90)
  obtain ⟨cJ, aJ, bJ⟩ := arr_K (htb _ tw181)
  obtain ⟨cZ, aZ, bZ⟩ := arr_K (htb _ tw162)
  obtain ⟨cR, aR, bR⟩ := arr_O (hts _ ew_ao)
  refine ⟨(s.heap.size, (fun j => match j with | 0 => c0 | 1 => c1 | 2 => c2 | 3 => c3 | 4 => c4 | 5 => c5 | 6 => c6 | 7 => c7 | 8 => c8 | _ => c9, fun j => match j with | 0 => i0 | 1 => i1 | 2 => i2 | 3 => i3 | 4 => i4 | 5 => i5 | 6 => i6 | 7 => i7 | 8 => i8 | _ => i9), cI, cJ, cZ, cR), rfl, ⟨?_, ?_⟩, ?_, ?_, ?_, ?_⟩
  · intro k q hq
    match k, hq with
    | 0, hq => cases hq; exact k0
    | 1, hq => cases hq; exact k1
    | 2, hq => cases hq; exact k2
    | 3, hq => cases hq; exact k3
    | 4, hq => cases hq; exact k4
    | 5, hq => cases hq; exact k5
    | 6, hq => cases hq; exact k6
    | 7, hq => cases hq; exact k7
    | 8, hq => cases hq; exact k8
    | 9, hq => cases hq; exact k9
    | k + 10, hq => simp [vwCl] at hq
  · intro k q hq
    match k, hq with
    | 0, hq => cases hq; exact ⟨aI, bI⟩
    | 1, hq => cases hq; exact ⟨aJ, bJ⟩
    | 2, hq => cases hq; exact ⟨aZ, bZ⟩
    | 3, hq => cases hq; exact ⟨aR, bR⟩
    | k + 4, hq => simp at hq
  · exact ⟨va_Nw.of rfl (hts _ ew_n1), va_Nw.of rfl (hts _ ew_n2), va_Nw.of rfl (hts _ ew_n3), va_Nw.of rfl (hts _ ew_n4)⟩
  · exact va_AO.of (hts _ ew_ao)
  · exact List.forall_mem_cons.mpr ⟨va_Nw.of rfl (hts _ ew_c0), List.forall_mem_cons.mpr ⟨va_Nw.of rfl (hts _ ew_c1), List.forall_mem_cons.mpr ⟨va_Nw.of rfl (hts _ ew_c2), List.forall_mem_cons.mpr ⟨va_Nw.of rfl (hts _ ew_c3), List.forall_mem_cons.mpr ⟨va_Nw.of rfl (hts _ ew_c4), fun _ h => absurd h List.not_mem_nil⟩⟩⟩⟩⟩
  · exact List.forall_mem_cons.mpr ⟨va_Nc.of (hfl _ ew_x0), List.forall_mem_cons.mpr ⟨va_Nc.of (hfl _ ew_x1), List.forall_mem_cons.mpr ⟨va_Nc.of (hfl _ ew_x2), List.forall_mem_cons.mpr ⟨va_Nc.of (hfl _ ew_x3), List.forall_mem_cons.mpr ⟨va_Nc.of (hfl _ ew_x4), List.forall_mem_cons.mpr ⟨va_Nc.of (hfl _ ew_x5), List.forall_mem_cons.mpr ⟨va_Nc.of (hfl _ ew_x6), List.forall_mem_cons.mpr ⟨va_Nc.of (hfl _ ew_x7), List.forall_mem_cons.mpr ⟨va_Nc.of (hfl _ ew_x8), List.forall_mem_cons.mpr ⟨va_Nc.of (hfl _ ew_x9), List.forall_mem_cons.mpr ⟨va_Nc.of (hfl _ ew_x10), List.forall_mem_cons.mpr ⟨va_Nc.of (hfl _ ew_x11), List.forall_mem_cons.mpr ⟨va_Nc.of (hfl _ ew_x12), List.forall_mem_cons.mpr ⟨va_Nc.of (hfl _ ew_x13), List.forall_mem_cons.mpr ⟨va_Nc.of (hfl _ ew_x14), fun _ h => absurd h List.not_mem_nil⟩⟩⟩⟩⟩⟩⟩⟩⟩⟩⟩⟩⟩⟩⟩
