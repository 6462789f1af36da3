theorem inX0 : ∀ w ∈ u_ws RX0 TX0 3, w ∈ TB := List.forall_mem_cons.mpr ⟨tw316, List.forall_mem_cons.mpr ⟨tw317, List.forall_mem_cons.mpr ⟨tw318, fun _ h => absurd h List.not_mem_nil⟩⟩⟩
theorem inX1 : ∀ w ∈ u_ws RX1 TX1 8, w ∈ TB := List.forall_mem_cons.mpr ⟨tw145, List.forall_mem_cons.mpr ⟨tw147, List.forall_mem_cons.mpr ⟨tw149, List.forall_mem_cons.mpr ⟨tw151, List.forall_mem_cons.mpr ⟨tw153, List.forall_mem_cons.mpr ⟨tw155, List.forall_mem_cons.mpr ⟨tw157, List.forall_mem_cons.mpr ⟨tw159, fun _ h => absurd h List.not_mem_nil⟩⟩⟩⟩⟩⟩⟩⟩
theorem inX2 : ∀ w ∈ u_ws RX2 TX2 3, w ∈ TB := List.forall_mem_cons.mpr ⟨tw326, List.forall_mem_cons.mpr ⟨tw327, List.forall_mem_cons.mpr ⟨tw328, fun _ h => absurd h List.not_mem_nil⟩⟩⟩
theorem inX3 : ∀ w ∈ u_ws RX3 TX3 3, w ∈ TB := List.forall_mem_cons.mpr ⟨tw336, List.forall_mem_cons.mpr ⟨tw337, List.forall_mem_cons.mpr ⟨tw338, fun _ h => absurd h List.not_mem_nil⟩⟩⟩
theorem inX4 : ∀ w ∈ u_ws RX4 TX4 2, w ∈ TB := List.forall_mem_cons.mpr ⟨tw85, List.forall_mem_cons.mpr ⟨tw87, fun _ h => absurd h List.not_mem_nil⟩⟩
theorem inX5 : ∀ w ∈ u_ws RX5 TX5 6, w ∈ TB := List.forall_mem_cons.mpr ⟨tw108, List.forall_mem_cons.mpr ⟨tw110, List.forall_mem_cons.mpr ⟨tw112, List.forall_mem_cons.mpr ⟨tw114, List.forall_mem_cons.mpr ⟨tw116, List.forall_mem_cons.mpr ⟨tw118, fun _ h => absurd h List.not_mem_nil⟩⟩⟩⟩⟩⟩
theorem inX6 : ∀ w ∈ u_ws RX6 TX6 3, w ∈ TB := List.forall_mem_cons.mpr ⟨tw306, List.forall_mem_cons.mpr ⟨tw307, List.forall_mem_cons.mpr ⟨tw308, fun _ h => absurd h List.not_mem_nil⟩⟩⟩
theorem inX7 : ∀ w ∈ u_ws RX7 TX7 3, w ∈ TB := List.forall_mem_cons.mpr ⟨tw174, List.forall_mem_cons.mpr ⟨tw176, List.forall_mem_cons.mpr ⟨tw178, fun _ h => absurd h List.not_mem_nil⟩⟩⟩
theorem inX8 : ∀ w ∈ u_ws RX8 TX8 18, w ∈ TB := List.forall_mem_cons.mpr ⟨tw200, List.forall_mem_cons.mpr ⟨tw202, List.forall_mem_cons.mpr ⟨tw204, List.forall_mem_cons.mpr ⟨tw206, List.forall_mem_cons.mpr ⟨tw208, List.forall_mem_cons.mpr ⟨tw210, List.forall_mem_cons.mpr ⟨tw212, List.forall_mem_cons.mpr ⟨tw214, List.forall_mem_cons.mpr ⟨tw216, List.forall_mem_cons.mpr ⟨tw218, List.forall_mem_cons.mpr ⟨tw220, List.forall_mem_cons.mpr ⟨tw222, List.forall_mem_cons.mpr ⟨tw224, List.forall_mem_cons.mpr ⟨tw226, List.forall_mem_cons.mpr ⟨tw228, List.forall_mem_cons.mpr ⟨tw230, List.forall_mem_cons.mpr ⟨tw232, List.forall_mem_cons.mpr ⟨tw234, fun _ h => absurd h List.not_mem_nil⟩⟩⟩⟩⟩⟩⟩⟩⟩⟩⟩⟩⟩⟩⟩⟩⟩⟩
theorem inX9 : ∀ w ∈ u_ws RX9 TX9 32, w ∈ TB := List.forall_mem_cons.mpr ⟨tw671, List.forall_mem_cons.mpr ⟨tw673, List.forall_mem_cons.mpr ⟨tw675, List.forall_mem_cons.mpr ⟨tw677, List.forall_mem_cons.mpr ⟨tw679, List.forall_mem_cons.mpr ⟨tw681, List.forall_mem_cons.mpr ⟨tw683, List.forall_mem_cons.mpr ⟨tw685, List.forall_mem_cons.mpr ⟨tw687, List.forall_mem_cons.mpr ⟨tw689, List.forall_mem_cons.mpr ⟨tw691, List.forall_mem_cons.mpr ⟨tw693, List.forall_mem_cons.mpr ⟨tw695, List.forall_mem_cons.mpr ⟨tw697, List.forall_mem_cons.mpr ⟨tw699, List.forall_mem_cons.mpr ⟨tw701, List.forall_mem_cons.mpr ⟨tw703, List.forall_mem_cons.mpr ⟨tw705, List.forall_mem_cons.mpr ⟨tw707, List.forall_mem_cons.mpr ⟨tw709, List.forall_mem_cons.mpr ⟨tw711, List.forall_mem_cons.mpr ⟨tw713, List.forall_mem_cons.mpr ⟨tw715, List.forall_mem_cons.mpr ⟨tw717, List.forall_mem_cons.mpr ⟨tw719, List.forall_mem_cons.mpr ⟨tw721, List.forall_mem_cons.mpr ⟨tw723, List.forall_mem_cons.mpr ⟨tw725, List.forall_mem_cons.mpr ⟨tw727, List.forall_mem_cons.mpr ⟨tw729, List.forall_mem_cons.mpr ⟨tw731, List.forall_mem_cons.mpr ⟨tw733, fun _ h => absurd h List.not_mem_nil⟩⟩⟩⟩⟩⟩⟩⟩⟩⟩⟩⟩⟩⟩⟩⟩⟩⟩⟩⟩⟩⟩⟩⟩⟩⟩⟩⟩⟩⟩⟩⟩
theorem flX4_9_4 : FL RX4 9 4 0 := ⟨RX4, TX4, 2, rfl, by decide, inX4, tw79⟩
theorem fpX4_9_4 : FP RX4 9 4 0 true (.array .int) := ⟨RX4, TX4, 2, rfl, by decide, inX4, tw79, ⟨tyX4, tyX4_ok⟩, nmX4, rfl, by decide +kernel, fun _ => rfl⟩
theorem flX5_36_4 : FL RX5 36 4 0 := ⟨RX4, TX4, 2, rfl, by decide, inX4, tw80⟩
theorem flX8_92_4 : FL RX8 92 4 0 := ⟨RX4, TX4, 2, rfl, by decide, inX4, tw81⟩
theorem flX4_13_4 : FL RX4 13 4 1 := ⟨RX4, TX4, 2, rfl, by decide, inX4, tw82⟩
theorem fpX4_13_4 : FP RX4 13 4 1 false .int := ⟨RX4, TX4, 2, rfl, by decide, inX4, tw82, ⟨tyX4, tyX4_ok⟩, nmX4, rfl, by decide +kernel, fun h => absurd h (by decide)⟩
theorem flX5_31_4 : FL RX5 31 4 1 := ⟨RX4, TX4, 2, rfl, by decide, inX4, tw83⟩
theorem fpX5_31_4 : FP RX5 31 4 1 false .int := ⟨RX4, TX4, 2, rfl, by decide, inX4, tw83, ⟨tyX4, tyX4_ok⟩, nmX4, rfl, by decide +kernel, fun h => absurd h (by decide)⟩
theorem flX8_89_4 : FL RX8 89 4 1 := ⟨RX4, TX4, 2, rfl, by decide, inX4, tw84⟩
theorem fpX8_89_4 : FP RX8 89 4 1 false .int := ⟨RX4, TX4, 2, rfl, by decide, inX4, tw84, ⟨tyX4, tyX4_ok⟩, nmX4, rfl, by decide +kernel, fun h => absurd h (by decide)⟩
theorem flX5_9_5 : FL RX5 9 5 0 := ⟨RX5, TX5, 6, rfl, by decide, inX5, tw97⟩
theorem fpX5_9_5 : FP RX5 9 5 0 true (.array .int) := ⟨RX5, TX5, 6, rfl, by decide, inX5, tw97, ⟨tyX5, tyX5_ok⟩, nmX5, rfl, by decide +kernel, fun _ => rfl⟩
theorem flX8_110_5 : FL RX8 110 5 0 := ⟨RX5, TX5, 6, rfl, by decide, inX5, tw98⟩
theorem flX5_15_5 : FL RX5 15 5 1 := ⟨RX5, TX5, 6, rfl, by decide, inX5, tw99⟩
theorem fpX5_15_5 : FP RX5 15 5 1 true (.array .int) := ⟨RX5, TX5, 6, rfl, by decide, inX5, tw99, ⟨tyX5, tyX5_ok⟩, nmX5, rfl, by decide +kernel, fun _ => rfl⟩
theorem flX8_113_5 : FL RX8 113 5 1 := ⟨RX5, TX5, 6, rfl, by decide, inX5, tw100⟩
theorem flX5_18_5 : FL RX5 18 5 2 := ⟨RX5, TX5, 6, rfl, by decide, inX5, tw101⟩
theorem fpX5_18_5 : FP RX5 18 5 2 true (.array .int) := ⟨RX5, TX5, 6, rfl, by decide, inX5, tw101, ⟨tyX5, tyX5_ok⟩, nmX5, rfl, by decide +kernel, fun _ => rfl⟩
theorem flX8_116_5 : FL RX8 116 5 2 := ⟨RX5, TX5, 6, rfl, by decide, inX5, tw102⟩
theorem flX5_21_5 : FL RX5 21 5 3 := ⟨RX5, TX5, 6, rfl, by decide, inX5, tw103⟩
theorem fpX5_21_5 : FP RX5 21 5 3 true (.array .int) := ⟨RX5, TX5, 6, rfl, by decide, inX5, tw103, ⟨tyX5, tyX5_ok⟩, nmX5, rfl, by decide +kernel, fun _ => rfl⟩
theorem flX8_119_5 : FL RX8 119 5 3 := ⟨RX5, TX5, 6, rfl, by decide, inX5, tw104⟩
theorem flX5_24_5 : FL RX5 24 5 4 := ⟨RX5, TX5, 6, rfl, by decide, inX5, tw105⟩
theorem fpX5_24_5 : FP RX5 24 5 4 false .int := ⟨RX5, TX5, 6, rfl, by decide, inX5, tw105, ⟨tyX5, tyX5_ok⟩, nmX5, rfl, by decide +kernel, fun h => absurd h (by decide)⟩
theorem flX8_107_5 : FL RX8 107 5 4 := ⟨RX5, TX5, 6, rfl, by decide, inX5, tw106⟩
theorem fpX8_107_5 : FP RX8 107 5 4 false .int := ⟨RX5, TX5, 6, rfl, by decide, inX5, tw106, ⟨tyX5, tyX5_ok⟩, nmX5, rfl, by decide +kernel, fun h => absurd h (by decide)⟩
theorem flX5_28_5 : FL RX5 28 5 5 := ⟨RX5, TX5, 6, rfl, by decide, inX5, tw107⟩
theorem fpX5_28_5 : FP RX5 28 5 5 false .int := ⟨RX5, TX5, 6, rfl, by decide, inX5, tw107, ⟨tyX5, tyX5_ok⟩, nmX5, rfl, by decide +kernel, fun h => absurd h (by decide)⟩
theorem flX1_9_1 : FL RX1 9 1 0 := ⟨RX1, TX1, 8, rfl, by decide, inX1, tw129⟩
theorem fpX1_9_1 : FP RX1 9 1 0 true (.array .int) := ⟨RX1, TX1, 8, rfl, by decide, inX1, tw129, ⟨tyX1, tyX1_ok⟩, nmX1, rfl, by decide +kernel, fun _ => rfl⟩
theorem flX8_166_1 : FL RX8 166 1 0 := ⟨RX1, TX1, 8, rfl, by decide, inX1, tw130⟩
theorem flX1_15_1 : FL RX1 15 1 1 := ⟨RX1, TX1, 8, rfl, by decide, inX1, tw131⟩
theorem fpX1_15_1 : FP RX1 15 1 1 true (.array .int) := ⟨RX1, TX1, 8, rfl, by decide, inX1, tw131, ⟨tyX1, tyX1_ok⟩, nmX1, rfl, by decide +kernel, fun _ => rfl⟩
theorem flX8_169_1 : FL RX8 169 1 1 := ⟨RX1, TX1, 8, rfl, by decide, inX1, tw132⟩
theorem flX1_18_1 : FL RX1 18 1 2 := ⟨RX1, TX1, 8, rfl, by decide, inX1, tw133⟩
theorem fpX1_18_1 : FP RX1 18 1 2 true (.array .int) := ⟨RX1, TX1, 8, rfl, by decide, inX1, tw133, ⟨tyX1, tyX1_ok⟩, nmX1, rfl, by decide +kernel, fun _ => rfl⟩
theorem flX8_160_1 : FL RX8 160 1 2 := ⟨RX1, TX1, 8, rfl, by decide, inX1, tw134⟩
theorem flX1_21_1 : FL RX1 21 1 3 := ⟨RX1, TX1, 8, rfl, by decide, inX1, tw135⟩
theorem fpX1_21_1 : FP RX1 21 1 3 true (.array .boolean) := ⟨RX1, TX1, 8, rfl, by decide, inX1, tw135, ⟨tyX1, tyX1_ok⟩, nmX1, rfl, by decide +kernel, fun _ => rfl⟩
theorem flX8_163_1 : FL RX8 163 1 3 := ⟨RX1, TX1, 8, rfl, by decide, inX1, tw136⟩
theorem flX1_25_1 : FL RX1 25 1 4 := ⟨RX1, TX1, 8, rfl, by decide, inX1, tw137⟩
theorem fpX1_25_1 : FP RX1 25 1 4 true (.array .boolean) := ⟨RX1, TX1, 8, rfl, by decide, inX1, tw137, ⟨tyX1, tyX1_ok⟩, nmX1, rfl, by decide +kernel, fun _ => rfl⟩
theorem flX8_126_1 : FL RX8 126 1 4 := ⟨RX1, TX1, 8, rfl, by decide, inX1, tw138⟩
theorem flX1_28_1 : FL RX1 28 1 5 := ⟨RX1, TX1, 8, rfl, by decide, inX1, tw139⟩
theorem fpX1_28_1 : FP RX1 28 1 5 true (.array .int) := ⟨RX1, TX1, 8, rfl, by decide, inX1, tw139, ⟨tyX1, tyX1_ok⟩, nmX1, rfl, by decide +kernel, fun _ => rfl⟩
theorem flX8_130_1 : FL RX8 130 1 5 := ⟨RX1, TX1, 8, rfl, by decide, inX1, tw140⟩
theorem flX1_31_1 : FL RX1 31 1 6 := ⟨RX1, TX1, 8, rfl, by decide, inX1, tw141⟩
theorem fpX1_31_1 : FP RX1 31 1 6 false .int := ⟨RX1, TX1, 8, rfl, by decide, inX1, tw141, ⟨tyX1, tyX1_ok⟩, nmX1, rfl, by decide +kernel, fun h => absurd h (by decide)⟩
theorem flX8_182_1 : FL RX8 182 1 6 := ⟨RX1, TX1, 8, rfl, by decide, inX1, tw142⟩
theorem fpX8_182_1 : FP RX8 182 1 6 false .int := ⟨RX1, TX1, 8, rfl, by decide, inX1, tw142, ⟨tyX1, tyX1_ok⟩, nmX1, rfl, by decide +kernel, fun h => absurd h (by decide)⟩
theorem flX1_35_1 : FL RX1 35 1 7 := ⟨RX1, TX1, 8, rfl, by decide, inX1, tw143⟩
theorem fpX1_35_1 : FP RX1 35 1 7 false .int := ⟨RX1, TX1, 8, rfl, by decide, inX1, tw143, ⟨tyX1, tyX1_ok⟩, nmX1, rfl, by decide +kernel, fun h => absurd h (by decide)⟩
theorem flX8_179_1 : FL RX8 179 1 7 := ⟨RX1, TX1, 8, rfl, by decide, inX1, tw144⟩
theorem fpX8_179_1 : FP RX8 179 1 7 false .int := ⟨RX1, TX1, 8, rfl, by decide, inX1, tw144, ⟨tyX1, tyX1_ok⟩, nmX1, rfl, by decide +kernel, fun h => absurd h (by decide)⟩
theorem flX7_7_0 : FL RX7 7 0 0 := ⟨RX0, TX0, 3, rfl, by decide, inX0, tw168⟩
theorem fpX7_7_0 : FP RX7 7 0 0 true .int := ⟨RX0, TX0, 3, rfl, by decide, inX0, tw168, ⟨tyX0, tyX0_ok⟩, nmX0, rfl, by decide +kernel, fun _ => rfl⟩
theorem flX7_7_2 : FL RX7 7 2 0 := ⟨RX2, TX2, 3, rfl, by decide, inX2, tw168⟩
theorem fpX7_7_2 : FP RX7 7 2 0 true .int := ⟨RX2, TX2, 3, rfl, by decide, inX2, tw168, ⟨tyX2, tyX2_ok⟩, nmX2, rfl, by decide +kernel, fun _ => rfl⟩
theorem flX7_7_3 : FL RX7 7 3 0 := ⟨RX3, TX3, 3, rfl, by decide, inX3, tw168⟩
theorem fpX7_7_3 : FP RX7 7 3 0 true .int := ⟨RX3, TX3, 3, rfl, by decide, inX3, tw168, ⟨tyX3, tyX3_ok⟩, nmX3, rfl, by decide +kernel, fun _ => rfl⟩
theorem flX7_7_6 : FL RX7 7 6 0 := ⟨RX6, TX6, 3, rfl, by decide, inX6, tw168⟩
theorem fpX7_7_6 : FP RX7 7 6 0 true .int := ⟨RX6, TX6, 3, rfl, by decide, inX6, tw168, ⟨tyX6, tyX6_ok⟩, nmX6, rfl, by decide +kernel, fun _ => rfl⟩
theorem flX7_7_7 : FL RX7 7 7 0 := ⟨RX7, TX7, 3, rfl, by decide, inX7, tw168⟩
theorem fpX7_7_7 : FP RX7 7 7 0 true .int := ⟨RX7, TX7, 3, rfl, by decide, inX7, tw168, ⟨tyX7, tyX7_ok⟩, nmX7, rfl, by decide +kernel, fun _ => rfl⟩
theorem flX8_141_0 : FL RX8 141 0 0 := ⟨RX0, TX0, 3, rfl, by decide, inX0, tw169⟩
theorem flX8_141_2 : FL RX8 141 2 0 := ⟨RX2, TX2, 3, rfl, by decide, inX2, tw169⟩
theorem flX8_141_3 : FL RX8 141 3 0 := ⟨RX3, TX3, 3, rfl, by decide, inX3, tw169⟩
theorem flX8_141_6 : FL RX8 141 6 0 := ⟨RX6, TX6, 3, rfl, by decide, inX6, tw169⟩
theorem flX8_141_7 : FL RX8 141 7 0 := ⟨RX7, TX7, 3, rfl, by decide, inX7, tw169⟩
theorem flX7_13_0 : FL RX7 13 0 1 := ⟨RX0, TX0, 3, rfl, by decide, inX0, tw170⟩
theorem fpX7_13_0 : FP RX7 13 0 1 true .int := ⟨RX0, TX0, 3, rfl, by decide, inX0, tw170, ⟨tyX0, tyX0_ok⟩, nmX0, rfl, by decide +kernel, fun _ => rfl⟩
theorem flX7_13_2 : FL RX7 13 2 1 := ⟨RX2, TX2, 3, rfl, by decide, inX2, tw170⟩
theorem fpX7_13_2 : FP RX7 13 2 1 true .int := ⟨RX2, TX2, 3, rfl, by decide, inX2, tw170, ⟨tyX2, tyX2_ok⟩, nmX2, rfl, by decide +kernel, fun _ => rfl⟩
theorem flX7_13_3 : FL RX7 13 3 1 := ⟨RX3, TX3, 3, rfl, by decide, inX3, tw170⟩
theorem fpX7_13_3 : FP RX7 13 3 1 true .int := ⟨RX3, TX3, 3, rfl, by decide, inX3, tw170, ⟨tyX3, tyX3_ok⟩, nmX3, rfl, by decide +kernel, fun _ => rfl⟩
theorem flX7_13_6 : FL RX7 13 6 1 := ⟨RX6, TX6, 3, rfl, by decide, inX6, tw170⟩
theorem fpX7_13_6 : FP RX7 13 6 1 true .int := ⟨RX6, TX6, 3, rfl, by decide, inX6, tw170, ⟨tyX6, tyX6_ok⟩, nmX6, rfl, by decide +kernel, fun _ => rfl⟩
theorem flX7_13_7 : FL RX7 13 7 1 := ⟨RX7, TX7, 3, rfl, by decide, inX7, tw170⟩
theorem fpX7_13_7 : FP RX7 13 7 1 true .int := ⟨RX7, TX7, 3, rfl, by decide, inX7, tw170, ⟨tyX7, tyX7_ok⟩, nmX7, rfl, by decide +kernel, fun _ => rfl⟩
theorem flX8_144_0 : FL RX8 144 0 1 := ⟨RX0, TX0, 3, rfl, by decide, inX0, tw171⟩
theorem flX8_144_2 : FL RX8 144 2 1 := ⟨RX2, TX2, 3, rfl, by decide, inX2, tw171⟩
theorem flX8_144_3 : FL RX8 144 3 1 := ⟨RX3, TX3, 3, rfl, by decide, inX3, tw171⟩
theorem flX8_144_6 : FL RX8 144 6 1 := ⟨RX6, TX6, 3, rfl, by decide, inX6, tw171⟩
theorem flX8_144_7 : FL RX8 144 7 1 := ⟨RX7, TX7, 3, rfl, by decide, inX7, tw171⟩
theorem flX7_16_0 : FL RX7 16 0 2 := ⟨RX0, TX0, 3, rfl, by decide, inX0, tw172⟩
theorem fpX7_16_0 : FP RX7 16 0 2 true .int := ⟨RX0, TX0, 3, rfl, by decide, inX0, tw172, ⟨tyX0, tyX0_ok⟩, nmX0, rfl, by decide +kernel, fun _ => rfl⟩
theorem flX7_16_2 : FL RX7 16 2 2 := ⟨RX2, TX2, 3, rfl, by decide, inX2, tw172⟩
theorem fpX7_16_2 : FP RX7 16 2 2 true .int := ⟨RX2, TX2, 3, rfl, by decide, inX2, tw172, ⟨tyX2, tyX2_ok⟩, nmX2, rfl, by decide +kernel, fun _ => rfl⟩
theorem flX7_16_3 : FL RX7 16 3 2 := ⟨RX3, TX3, 3, rfl, by decide, inX3, tw172⟩
theorem fpX7_16_3 : FP RX7 16 3 2 true .int := ⟨RX3, TX3, 3, rfl, by decide, inX3, tw172, ⟨tyX3, tyX3_ok⟩, nmX3, rfl, by decide +kernel, fun _ => rfl⟩
theorem flX7_16_6 : FL RX7 16 6 2 := ⟨RX6, TX6, 3, rfl, by decide, inX6, tw172⟩
theorem fpX7_16_6 : FP RX7 16 6 2 true .int := ⟨RX6, TX6, 3, rfl, by decide, inX6, tw172, ⟨tyX6, tyX6_ok⟩, nmX6, rfl, by decide +kernel, fun _ => rfl⟩
theorem flX7_16_7 : FL RX7 16 7 2 := ⟨RX7, TX7, 3, rfl, by decide, inX7, tw172⟩
theorem fpX7_16_7 : FP RX7 16 7 2 true .int := ⟨RX7, TX7, 3, rfl, by decide, inX7, tw172, ⟨tyX7, tyX7_ok⟩, nmX7, rfl, by decide +kernel, fun _ => rfl⟩
theorem flX8_146_0 : FL RX8 146 0 2 := ⟨RX0, TX0, 3, rfl, by decide, inX0, tw173⟩
theorem flX8_146_2 : FL RX8 146 2 2 := ⟨RX2, TX2, 3, rfl, by decide, inX2, tw173⟩
theorem flX8_146_3 : FL RX8 146 3 2 := ⟨RX3, TX3, 3, rfl, by decide, inX3, tw173⟩
theorem flX8_146_6 : FL RX8 146 6 2 := ⟨RX6, TX6, 3, rfl, by decide, inX6, tw173⟩
theorem flX8_146_7 : FL RX8 146 7 2 := ⟨RX7, TX7, 3, rfl, by decide, inX7, tw173⟩
theorem flX8_12_8 : FL RX8 12 8 0 := ⟨RX8, TX8, 18, rfl, by decide, inX8, tw182⟩
theorem fpX8_12_8 : FP RX8 12 8 0 true (.object "ThievesPaid$Page") := ⟨RX8, TX8, 18, rfl, by decide, inX8, tw182, ⟨tyX8, tyX8_ok⟩, nmX8, rfl, by decide +kernel, fun _ => rfl⟩
theorem flX8_19_8 : FL RX8 19 8 1 := ⟨RX8, TX8, 18, rfl, by decide, inX8, tw183⟩
theorem fpX8_19_8 : FP RX8 19 8 1 true (.object "ThievesPaid$Reader") := ⟨RX8, TX8, 18, rfl, by decide, inX8, tw183, ⟨tyX8, tyX8_ok⟩, nmX8, rfl, by decide +kernel, fun _ => rfl⟩
theorem flX8_25_8 : FL RX8 25 8 2 := ⟨RX8, TX8, 18, rfl, by decide, inX8, tw184⟩
theorem fpX8_25_8 : FP RX8 25 8 2 true (.array (.object "ThievesPaid$Thief")) := ⟨RX8, TX8, 18, rfl, by decide, inX8, tw184, ⟨tyX8, tyX8_ok⟩, nmX8, rfl, by decide +kernel, fun _ => rfl⟩
theorem flX8_29_8 : FL RX8 29 8 3 := ⟨RX8, TX8, 18, rfl, by decide, inX8, tw185⟩
theorem fpX8_29_8 : FP RX8 29 8 3 true (.array .int) := ⟨RX8, TX8, 18, rfl, by decide, inX8, tw185, ⟨tyX8, tyX8_ok⟩, nmX8, rfl, by decide +kernel, fun _ => rfl⟩
theorem flX8_33_8 : FL RX8 33 8 4 := ⟨RX8, TX8, 18, rfl, by decide, inX8, tw186⟩
theorem fpX8_33_8 : FP RX8 33 8 4 true (.array .int) := ⟨RX8, TX8, 18, rfl, by decide, inX8, tw186, ⟨tyX8, tyX8_ok⟩, nmX8, rfl, by decide +kernel, fun _ => rfl⟩
theorem flX8_39_8 : FL RX8 39 8 5 := ⟨RX8, TX8, 18, rfl, by decide, inX8, tw187⟩
theorem fpX8_39_8 : FP RX8 39 8 5 true (.object "ThievesPaid$City") := ⟨RX8, TX8, 18, rfl, by decide, inX8, tw187, ⟨tyX8, tyX8_ok⟩, nmX8, rfl, by decide +kernel, fun _ => rfl⟩
theorem flX8_43_8 : FL RX8 43 8 6 := ⟨RX8, TX8, 18, rfl, by decide, inX8, tw188⟩
theorem fpX8_43_8 : FP RX8 43 8 6 true (.object "ThievesPaid$City") := ⟨RX8, TX8, 18, rfl, by decide, inX8, tw188, ⟨tyX8, tyX8_ok⟩, nmX8, rfl, by decide +kernel, fun _ => rfl⟩
theorem flX8_46_8 : FL RX8 46 8 7 := ⟨RX8, TX8, 18, rfl, by decide, inX8, tw189⟩
theorem fpX8_46_8 : FP RX8 46 8 7 true (.object "ThievesPaid$City") := ⟨RX8, TX8, 18, rfl, by decide, inX8, tw189, ⟨tyX8, tyX8_ok⟩, nmX8, rfl, by decide +kernel, fun _ => rfl⟩
theorem flX8_49_8 : FL RX8 49 8 8 := ⟨RX8, TX8, 18, rfl, by decide, inX8, tw190⟩
theorem fpX8_49_8 : FP RX8 49 8 8 true (.array .long) := ⟨RX8, TX8, 18, rfl, by decide, inX8, tw190, ⟨tyX8, tyX8_ok⟩, nmX8, rfl, by decide +kernel, fun _ => rfl⟩
theorem flX8_53_8 : FL RX8 53 8 9 := ⟨RX8, TX8, 18, rfl, by decide, inX8, tw191⟩
theorem fpX8_53_8 : FP RX8 53 8 9 true (.array .int) := ⟨RX8, TX8, 18, rfl, by decide, inX8, tw191, ⟨tyX8, tyX8_ok⟩, nmX8, rfl, by decide +kernel, fun _ => rfl⟩
theorem flX8_56_8 : FL RX8 56 8 10 := ⟨RX8, TX8, 18, rfl, by decide, inX8, tw192⟩
theorem fpX8_56_8 : FP RX8 56 8 10 true (.array .int) := ⟨RX8, TX8, 18, rfl, by decide, inX8, tw192, ⟨tyX8, tyX8_ok⟩, nmX8, rfl, by decide +kernel, fun _ => rfl⟩
theorem flX8_59_8 : FL RX8 59 8 11 := ⟨RX8, TX8, 18, rfl, by decide, inX8, tw193⟩
theorem fpX8_59_8 : FP RX8 59 8 11 true (.array .int) := ⟨RX8, TX8, 18, rfl, by decide, inX8, tw193, ⟨tyX8, tyX8_ok⟩, nmX8, rfl, by decide +kernel, fun _ => rfl⟩
theorem flX8_62_8 : FL RX8 62 8 12 := ⟨RX8, TX8, 18, rfl, by decide, inX8, tw194⟩
theorem fpX8_62_8 : FP RX8 62 8 12 false .int := ⟨RX8, TX8, 18, rfl, by decide, inX8, tw194, ⟨tyX8, tyX8_ok⟩, nmX8, rfl, by decide +kernel, fun h => absurd h (by decide)⟩
theorem flX8_66_8 : FL RX8 66 8 13 := ⟨RX8, TX8, 18, rfl, by decide, inX8, tw195⟩
theorem fpX8_66_8 : FP RX8 66 8 13 false .int := ⟨RX8, TX8, 18, rfl, by decide, inX8, tw195, ⟨tyX8, tyX8_ok⟩, nmX8, rfl, by decide +kernel, fun h => absurd h (by decide)⟩
theorem flX8_69_8 : FL RX8 69 8 14 := ⟨RX8, TX8, 18, rfl, by decide, inX8, tw196⟩
theorem fpX8_69_8 : FP RX8 69 8 14 false .int := ⟨RX8, TX8, 18, rfl, by decide, inX8, tw196, ⟨tyX8, tyX8_ok⟩, nmX8, rfl, by decide +kernel, fun h => absurd h (by decide)⟩
theorem flX8_72_8 : FL RX8 72 8 15 := ⟨RX8, TX8, 18, rfl, by decide, inX8, tw197⟩
theorem fpX8_72_8 : FP RX8 72 8 15 false .boolean := ⟨RX8, TX8, 18, rfl, by decide, inX8, tw197, ⟨tyX8, tyX8_ok⟩, nmX8, rfl, by decide +kernel, fun h => absurd h (by decide)⟩
theorem flX8_76_8 : FL RX8 76 8 16 := ⟨RX8, TX8, 18, rfl, by decide, inX8, tw198⟩
theorem fpX8_76_8 : FP RX8 76 8 16 false .int := ⟨RX8, TX8, 18, rfl, by decide, inX8, tw198, ⟨tyX8, tyX8_ok⟩, nmX8, rfl, by decide +kernel, fun h => absurd h (by decide)⟩
theorem flX8_79_8 : FL RX8 79 8 17 := ⟨RX8, TX8, 18, rfl, by decide, inX8, tw199⟩
theorem fpX8_79_8 : FP RX8 79 8 17 false .int := ⟨RX8, TX8, 18, rfl, by decide, inX8, tw199, ⟨tyX8, tyX8_ok⟩, nmX8, rfl, by decide +kernel, fun h => absurd h (by decide)⟩
theorem flX9_7_9 : FL RX9 7 9 0 := ⟨RX9, TX9, 32, rfl, by decide, inX9, tw639⟩
theorem fpX9_7_9 : FP RX9 7 9 0 true (.array .int) := ⟨RX9, TX9, 32, rfl, by decide, inX9, tw639, ⟨tyX9, tyX9_ok⟩, nmX9, rfl, by decide +kernel, fun _ => rfl⟩
theorem flX9_59_9 : FL RX9 59 9 1 := ⟨RX9, TX9, 32, rfl, by decide, inX9, tw640⟩
theorem fpX9_59_9 : FP RX9 59 9 1 false .int := ⟨RX9, TX9, 32, rfl, by decide, inX9, tw640, ⟨tyX9, tyX9_ok⟩, nmX9, rfl, by decide +kernel, fun h => absurd h (by decide)⟩
theorem flX9_13_9 : FL RX9 13 9 2 := ⟨RX9, TX9, 32, rfl, by decide, inX9, tw641⟩
theorem fpX9_13_9 : FP RX9 13 9 2 true (.array .int) := ⟨RX9, TX9, 32, rfl, by decide, inX9, tw641, ⟨tyX9, tyX9_ok⟩, nmX9, rfl, by decide +kernel, fun _ => rfl⟩
theorem flX9_62_9 : FL RX9 62 9 3 := ⟨RX9, TX9, 32, rfl, by decide, inX9, tw642⟩
theorem fpX9_62_9 : FP RX9 62 9 3 false .int := ⟨RX9, TX9, 32, rfl, by decide, inX9, tw642, ⟨tyX9, tyX9_ok⟩, nmX9, rfl, by decide +kernel, fun h => absurd h (by decide)⟩
theorem flX9_65_9 : FL RX9 65 9 4 := ⟨RX9, TX9, 32, rfl, by decide, inX9, tw643⟩
theorem fpX9_65_9 : FP RX9 65 9 4 false .int := ⟨RX9, TX9, 32, rfl, by decide, inX9, tw643, ⟨tyX9, tyX9_ok⟩, nmX9, rfl, by decide +kernel, fun h => absurd h (by decide)⟩
theorem flX9_91_9 : FL RX9 91 9 5 := ⟨RX9, TX9, 32, rfl, by decide, inX9, tw644⟩
theorem fpX9_91_9 : FP RX9 91 9 5 false .int := ⟨RX9, TX9, 32, rfl, by decide, inX9, tw644, ⟨tyX9, tyX9_ok⟩, nmX9, rfl, by decide +kernel, fun h => absurd h (by decide)⟩
theorem flX9_97_9 : FL RX9 97 9 6 := ⟨RX9, TX9, 32, rfl, by decide, inX9, tw645⟩
theorem fpX9_97_9 : FP RX9 97 9 6 false .int := ⟨RX9, TX9, 32, rfl, by decide, inX9, tw645, ⟨tyX9, tyX9_ok⟩, nmX9, rfl, by decide +kernel, fun h => absurd h (by decide)⟩
theorem flX9_16_9 : FL RX9 16 9 7 := ⟨RX9, TX9, 32, rfl, by decide, inX9, tw646⟩
theorem fpX9_16_9 : FP RX9 16 9 7 true (.array .int) := ⟨RX9, TX9, 32, rfl, by decide, inX9, tw646, ⟨tyX9, tyX9_ok⟩, nmX9, rfl, by decide +kernel, fun _ => rfl⟩
theorem flX9_94_9 : FL RX9 94 9 8 := ⟨RX9, TX9, 32, rfl, by decide, inX9, tw647⟩
theorem fpX9_94_9 : FP RX9 94 9 8 false .int := ⟨RX9, TX9, 32, rfl, by decide, inX9, tw647, ⟨tyX9, tyX9_ok⟩, nmX9, rfl, by decide +kernel, fun h => absurd h (by decide)⟩
theorem flX9_19_9 : FL RX9 19 9 9 := ⟨RX9, TX9, 32, rfl, by decide, inX9, tw648⟩
theorem fpX9_19_9 : FP RX9 19 9 9 true (.array .int) := ⟨RX9, TX9, 32, rfl, by decide, inX9, tw648, ⟨tyX9, tyX9_ok⟩, nmX9, rfl, by decide +kernel, fun _ => rfl⟩
theorem flX9_113_9 : FL RX9 113 9 10 := ⟨RX9, TX9, 32, rfl, by decide, inX9, tw649⟩
theorem fpX9_113_9 : FP RX9 113 9 10 false .int := ⟨RX9, TX9, 32, rfl, by decide, inX9, tw649, ⟨tyX9, tyX9_ok⟩, nmX9, rfl, by decide +kernel, fun h => absurd h (by decide)⟩
theorem flX9_157_9 : FL RX9 157 9 11 := ⟨RX9, TX9, 32, rfl, by decide, inX9, tw650⟩
theorem fpX9_157_9 : FP RX9 157 9 11 false .int := ⟨RX9, TX9, 32, rfl, by decide, inX9, tw650, ⟨tyX9, tyX9_ok⟩, nmX9, rfl, by decide +kernel, fun h => absurd h (by decide)⟩
theorem flX9_160_9 : FL RX9 160 9 12 := ⟨RX9, TX9, 32, rfl, by decide, inX9, tw651⟩
theorem fpX9_160_9 : FP RX9 160 9 12 false .int := ⟨RX9, TX9, 32, rfl, by decide, inX9, tw651, ⟨tyX9, tyX9_ok⟩, nmX9, rfl, by decide +kernel, fun h => absurd h (by decide)⟩
theorem flX9_119_9 : FL RX9 119 9 13 := ⟨RX9, TX9, 32, rfl, by decide, inX9, tw652⟩
theorem fpX9_119_9 : FP RX9 119 9 13 false .int := ⟨RX9, TX9, 32, rfl, by decide, inX9, tw652, ⟨tyX9, tyX9_ok⟩, nmX9, rfl, by decide +kernel, fun h => absurd h (by decide)⟩
theorem flX9_22_9 : FL RX9 22 9 14 := ⟨RX9, TX9, 32, rfl, by decide, inX9, tw653⟩
theorem fpX9_22_9 : FP RX9 22 9 14 true (.array .int) := ⟨RX9, TX9, 32, rfl, by decide, inX9, tw653, ⟨tyX9, tyX9_ok⟩, nmX9, rfl, by decide +kernel, fun _ => rfl⟩
theorem flX9_25_9 : FL RX9 25 9 15 := ⟨RX9, TX9, 32, rfl, by decide, inX9, tw654⟩
theorem fpX9_25_9 : FP RX9 25 9 15 true (.array .int) := ⟨RX9, TX9, 32, rfl, by decide, inX9, tw654, ⟨tyX9, tyX9_ok⟩, nmX9, rfl, by decide +kernel, fun _ => rfl⟩
theorem flX9_28_9 : FL RX9 28 9 16 := ⟨RX9, TX9, 32, rfl, by decide, inX9, tw655⟩
theorem fpX9_28_9 : FP RX9 28 9 16 true (.array .int) := ⟨RX9, TX9, 32, rfl, by decide, inX9, tw655, ⟨tyX9, tyX9_ok⟩, nmX9, rfl, by decide +kernel, fun _ => rfl⟩
theorem flX9_31_9 : FL RX9 31 9 17 := ⟨RX9, TX9, 32, rfl, by decide, inX9, tw656⟩
theorem fpX9_31_9 : FP RX9 31 9 17 true (.array .int) := ⟨RX9, TX9, 32, rfl, by decide, inX9, tw656, ⟨tyX9, tyX9_ok⟩, nmX9, rfl, by decide +kernel, fun _ => rfl⟩
theorem flX9_34_9 : FL RX9 34 9 18 := ⟨RX9, TX9, 32, rfl, by decide, inX9, tw657⟩
theorem fpX9_34_9 : FP RX9 34 9 18 true (.array .long) := ⟨RX9, TX9, 32, rfl, by decide, inX9, tw657, ⟨tyX9, tyX9_ok⟩, nmX9, rfl, by decide +kernel, fun _ => rfl⟩
theorem flX9_38_9 : FL RX9 38 9 19 := ⟨RX9, TX9, 32, rfl, by decide, inX9, tw658⟩
theorem fpX9_38_9 : FP RX9 38 9 19 true (.array .int) := ⟨RX9, TX9, 32, rfl, by decide, inX9, tw658, ⟨tyX9, tyX9_ok⟩, nmX9, rfl, by decide +kernel, fun _ => rfl⟩
theorem flX9_41_9 : FL RX9 41 9 20 := ⟨RX9, TX9, 32, rfl, by decide, inX9, tw659⟩
theorem fpX9_41_9 : FP RX9 41 9 20 true (.array .int) := ⟨RX9, TX9, 32, rfl, by decide, inX9, tw659, ⟨tyX9, tyX9_ok⟩, nmX9, rfl, by decide +kernel, fun _ => rfl⟩
theorem flX9_213_9 : FL RX9 213 9 21 := ⟨RX9, TX9, 32, rfl, by decide, inX9, tw660⟩
theorem fpX9_213_9 : FP RX9 213 9 21 false .int := ⟨RX9, TX9, 32, rfl, by decide, inX9, tw660, ⟨tyX9, tyX9_ok⟩, nmX9, rfl, by decide +kernel, fun h => absurd h (by decide)⟩
theorem flX9_53_9 : FL RX9 53 9 22 := ⟨RX9, TX9, 32, rfl, by decide, inX9, tw661⟩
theorem fpX9_53_9 : FP RX9 53 9 22 false .int := ⟨RX9, TX9, 32, rfl, by decide, inX9, tw661, ⟨tyX9, tyX9_ok⟩, nmX9, rfl, by decide +kernel, fun h => absurd h (by decide)⟩
theorem flX9_228_9 : FL RX9 228 9 23 := ⟨RX9, TX9, 32, rfl, by decide, inX9, tw662⟩
theorem fpX9_228_9 : FP RX9 228 9 23 false .int := ⟨RX9, TX9, 32, rfl, by decide, inX9, tw662, ⟨tyX9, tyX9_ok⟩, nmX9, rfl, by decide +kernel, fun h => absurd h (by decide)⟩
theorem flX9_231_9 : FL RX9 231 9 24 := ⟨RX9, TX9, 32, rfl, by decide, inX9, tw663⟩
theorem fpX9_231_9 : FP RX9 231 9 24 false .int := ⟨RX9, TX9, 32, rfl, by decide, inX9, tw663, ⟨tyX9, tyX9_ok⟩, nmX9, rfl, by decide +kernel, fun h => absurd h (by decide)⟩
theorem flX9_234_9 : FL RX9 234 9 25 := ⟨RX9, TX9, 32, rfl, by decide, inX9, tw664⟩
theorem fpX9_234_9 : FP RX9 234 9 25 false .int := ⟨RX9, TX9, 32, rfl, by decide, inX9, tw664, ⟨tyX9, tyX9_ok⟩, nmX9, rfl, by decide +kernel, fun h => absurd h (by decide)⟩
theorem flX9_237_9 : FL RX9 237 9 26 := ⟨RX9, TX9, 32, rfl, by decide, inX9, tw665⟩
theorem fpX9_237_9 : FP RX9 237 9 26 false .int := ⟨RX9, TX9, 32, rfl, by decide, inX9, tw665, ⟨tyX9, tyX9_ok⟩, nmX9, rfl, by decide +kernel, fun h => absurd h (by decide)⟩
theorem flX9_240_9 : FL RX9 240 9 27 := ⟨RX9, TX9, 32, rfl, by decide, inX9, tw666⟩
theorem fpX9_240_9 : FP RX9 240 9 27 false .int := ⟨RX9, TX9, 32, rfl, by decide, inX9, tw666, ⟨tyX9, tyX9_ok⟩, nmX9, rfl, by decide +kernel, fun h => absurd h (by decide)⟩
theorem flX9_44_9 : FL RX9 44 9 28 := ⟨RX9, TX9, 32, rfl, by decide, inX9, tw667⟩
theorem fpX9_44_9 : FP RX9 44 9 28 true (.array .int) := ⟨RX9, TX9, 32, rfl, by decide, inX9, tw667, ⟨tyX9, tyX9_ok⟩, nmX9, rfl, by decide +kernel, fun _ => rfl⟩
theorem flX9_47_9 : FL RX9 47 9 29 := ⟨RX9, TX9, 32, rfl, by decide, inX9, tw668⟩
theorem fpX9_47_9 : FP RX9 47 9 29 true (.array .int) := ⟨RX9, TX9, 32, rfl, by decide, inX9, tw668, ⟨tyX9, tyX9_ok⟩, nmX9, rfl, by decide +kernel, fun _ => rfl⟩
theorem flX9_50_9 : FL RX9 50 9 30 := ⟨RX9, TX9, 32, rfl, by decide, inX9, tw669⟩
theorem fpX9_50_9 : FP RX9 50 9 30 true (.array .int) := ⟨RX9, TX9, 32, rfl, by decide, inX9, tw669, ⟨tyX9, tyX9_ok⟩, nmX9, rfl, by decide +kernel, fun _ => rfl⟩
theorem flX9_248_9 : FL RX9 248 9 31 := ⟨RX9, TX9, 32, rfl, by decide, inX9, tw670⟩
theorem fpX9_248_9 : FP RX9 248 9 31 false .long := ⟨RX9, TX9, 32, rfl, by decide, inX9, tw670, ⟨tyX9, tyX9_ok⟩, nmX9, rfl, by decide +kernel, fun h => absurd h (by decide)⟩
theorem nwL_7 : NW RL 7 8 18 := ⟨RX8, TX8, tyX8, rfl, inX8, tyX8_ok, tw65, tw66, tw53, by decide +kernel⟩
theorem nwX8_9 : NW RX8 9 4 2 := ⟨RX4, TX4, tyX4, rfl, inX4, tyX4_ok, tw73, tw74, tw54, by decide +kernel⟩
theorem nwX8_16 : NW RX8 16 5 6 := ⟨RX5, TX5, tyX5, rfl, inX5, tyX5_ok, tw91, tw92, tw55, by decide +kernel⟩
theorem nwX8_23 : NW RX8 23 7 3 := ⟨RX7, TX7, tyX7, rfl, inX7, tyX7_ok, tw121, tw163, tw57, by decide +kernel⟩
theorem nwX8_36 : NW RX8 36 1 8 := ⟨RX1, TX1, tyX1, rfl, inX1, tyX1_ok, tw123, tw124, tw56, by decide +kernel⟩
theorem nwX8_275 : NW RX8 275 6 3 := ⟨RX6, TX6, tyX6, rfl, inX6, tyX6_ok, tw300, tw301, tw59, by decide +kernel⟩
theorem nwX8_278 : NW RX8 278 0 3 := ⟨RX0, TX0, tyX0, rfl, inX0, tyX0_ok, tw310, tw311, tw60, by decide +kernel⟩
theorem nwX8_281 : NW RX8 281 2 3 := ⟨RX2, TX2, tyX2, rfl, inX2, tyX2_ok, tw320, tw321, tw61, by decide +kernel⟩
theorem nwX8_284 : NW RX8 284 3 3 := ⟨RX3, TX3, tyX3, rfl, inX3, tyX3_ok, tw330, tw331, tw62, by decide +kernel⟩
theorem nwL_10 : NW RL 10 9 32 := ⟨RX9, TX9, tyX9, rfl, inX9, tyX9_ok, tw633, tw634, tw58, by decide +kernel⟩
theorem ciL_9 : CI RL 9 yX8_init cX8_init 2 0 := ⟨tw67, tw68, tw53, tw69, ⟨by decide, by decide, by decide +kernel⟩, rfl⟩
theorem ciX8_11 : CIN RX8 11 yX4_init cX4_init 1 0 := ⟨tw76, tw54, tw77, ⟨by decide, by decide, by decide +kernel⟩, rfl, fun _ _ h => h.2.1.1⟩
theorem ciX8_18 : CIN RX8 18 yX5_init cX5_init 1 0 := ⟨tw94, tw55, tw95, ⟨by decide, by decide, by decide +kernel⟩, rfl, fun _ _ h => h.2.1.2.1⟩
theorem ciX8_38 : CIN RX8 38 yX1_init cX1_init 1 0 := ⟨tw126, tw56, tw127, ⟨by decide, by decide, by decide +kernel⟩, rfl, fun _ _ h => h.2.1.2.2.1⟩
theorem ciX8_82 : CI RX8 82 yX7_init cX7_init 4 3 := ⟨tw164, tw165, tw57, tw166, ⟨by decide, by decide, by decide +kernel⟩, rfl⟩
theorem cvL_15 : CV RL 15 yX8_letters cX8_letters 5 (Option.some FieldType.int) 1 8 := ⟨tw237, tw238, tw239, tw53, tw240, ⟨by decide, by decide, by decide +kernel⟩, (RX8, TX8, 18), rfl, rfl⟩
theorem csX8_85 : CS RX8 85 yX8_lettersTold cX8_lettersTold 5 (Option.some FieldType.int) 1 := ⟨tw241, tw242, tw53, tw243, ⟨by decide, by decide, by decide +kernel⟩⟩
theorem csX8_95 : CS RX8 95 yX8_byteOf cX8_byteOf 3 (Option.some FieldType.int) 2 := ⟨tw244, tw245, tw53, tw246, ⟨by decide, by decide, by decide +kernel⟩⟩
theorem cvL_20 : CV RL 20 yX8_blank cX8_blank 2 (Option.some FieldType.int) 0 8 := ⟨tw247, tw248, tw249, tw53, tw250, ⟨by decide, by decide, by decide +kernel⟩, (RX8, TX8, 18), rfl, rfl⟩
theorem cvL_25 : CV RL 25 yX8_fault cX8_fault 1 (Option.some FieldType.int) 0 8 := ⟨tw251, tw252, tw253, tw53, tw254, ⟨by decide, by decide, by decide +kernel⟩, (RX8, TX8, 18), rfl, rfl⟩
theorem cvX8_99 : CV RX8 99 yX5_readAhead cX5_readAhead 3 (Option.some FieldType.int) 1 5 := ⟨tw255, tw256, tw257, tw55, tw258, ⟨by decide, by decide, by decide +kernel⟩, (RX5, TX5, 6), rfl, rfl⟩
theorem cvX5_39 : CV RX5 39 yX5_takes cX5_takes 2 (Option.some FieldType.boolean) 1 5 := ⟨tw259, tw261, tw0, tw55, tw262, ⟨by decide, by decide, by decide +kernel⟩, (RX5, TX5, 6), rfl, rfl⟩
theorem cvX5_43 : CV RX5 43 yX5_takesStart cX5_takesStart 2 (Option.some FieldType.boolean) 1 5 := ⟨tw263, tw265, tw1, tw55, tw266, ⟨by decide, by decide, by decide +kernel⟩, (RX5, TX5, 6), rfl, rfl⟩
theorem csX5_58 : CS RX5 58 yX5_kindOf cX5_kindOf 1 (Option.some FieldType.int) 1 := ⟨tw267, tw268, tw55, tw269, ⟨by decide, by decide, by decide +kernel⟩⟩
theorem cvX5_46 : CV RX5 46 yX5_takesPayer cX5_takesPayer 2 (Option.some FieldType.boolean) 1 5 := ⟨tw270, tw272, tw2, tw55, tw273, ⟨by decide, by decide, by decide +kernel⟩, (RX5, TX5, 6), rfl, rfl⟩
theorem csX5_62 : CSN RX5 62 yX8_isHouse cX8_isHouse 1 (Option.some FieldType.boolean) 1 := ⟨tw275, tw53, tw276, ⟨by decide, by decide, by decide +kernel⟩, fun _ _ h => h.2.1.2.2.2⟩
theorem cvX5_49 : CV RX5 49 yX5_takesRobbed cX5_takesRobbed 2 (Option.some FieldType.boolean) 1 5 := ⟨tw277, tw279, tw3, tw55, tw280, ⟨by decide, by decide, by decide +kernel⟩, (RX5, TX5, 6), rfl, rfl⟩
theorem cvX5_52 : CV RX5 52 yX5_takesFee cX5_takesFee 2 (Option.some FieldType.boolean) 1 5 := ⟨tw281, tw283, tw4, tw55, tw284, ⟨by decide, by decide, by decide +kernel⟩, (RX5, TX5, 6), rfl, rfl⟩
theorem cvX5_55 : CV RX5 55 yX5_takesComma cX5_takesComma 2 (Option.some FieldType.boolean) 1 5 := ⟨tw285, tw287, tw5, tw55, tw288, ⟨by decide, by decide, by decide +kernel⟩, (RX5, TX5, 6), rfl, rfl⟩
theorem cvL_29 : CV RL 29 yX8_contracts cX8_contracts 2 (Option.some FieldType.int) 0 8 := ⟨tw289, tw290, tw291, tw53, tw292, ⟨by decide, by decide, by decide +kernel⟩, (RX8, TX8, 18), rfl, rfl⟩
theorem cvX8_103 : CV RX8 103 yX5_isAtEnd cX5_isAtEnd 1 (Option.some FieldType.boolean) 0 5 := ⟨tw293, tw294, tw295, tw55, tw296, ⟨by decide, by decide, by decide +kernel⟩, (RX5, TX5, 6), rfl, rfl⟩
theorem csX8_122 : CS RX8 122 yX8_hired cX8_hired 4 (Option.some (FieldType.object "ThievesPaid$Thief")) 4 := ⟨tw297, tw298, tw53, tw299, ⟨by decide, by decide, by decide +kernel⟩⟩
theorem ciX8_277 : CI RX8 277 yX6_init cX6_init 4 3 := ⟨tw302, tw303, tw59, tw304, ⟨by decide, by decide, by decide +kernel⟩, rfl⟩
theorem ciX6_1 : CI RX6 1 yX7_init cX7_init 4 3 := ⟨tw305, tw165, tw57, tw166, ⟨by decide, by decide, by decide +kernel⟩, rfl⟩
theorem ciX8_280 : CI RX8 280 yX0_init cX0_init 4 3 := ⟨tw312, tw313, tw60, tw314, ⟨by decide, by decide, by decide +kernel⟩, rfl⟩
theorem ciX0_1 : CI RX0 1 yX7_init cX7_init 4 3 := ⟨tw315, tw165, tw57, tw166, ⟨by decide, by decide, by decide +kernel⟩, rfl⟩
theorem ciX8_283 : CI RX8 283 yX2_init cX2_init 4 3 := ⟨tw322, tw323, tw61, tw324, ⟨by decide, by decide, by decide +kernel⟩, rfl⟩
theorem ciX2_1 : CI RX2 1 yX7_init cX7_init 4 3 := ⟨tw325, tw165, tw57, tw166, ⟨by decide, by decide, by decide +kernel⟩, rfl⟩
theorem ciX8_286 : CI RX8 286 yX3_init cX3_init 4 3 := ⟨tw332, tw333, tw62, tw334, ⟨by decide, by decide, by decide +kernel⟩, rfl⟩
theorem ciX3_1 : CI RX3 1 yX6_init cX6_init 4 3 := ⟨tw335, tw303, tw59, tw304, ⟨by decide, by decide, by decide +kernel⟩, rfl⟩
theorem cvL_33 : CV RL 33 yX8_about cX8_about 4 (Option.some FieldType.int) 2 8 := ⟨tw340, tw341, tw342, tw53, tw343, ⟨by decide, by decide, by decide +kernel⟩, (RX8, TX8, 18), rfl, rfl⟩
theorem cvX8_133 : CV RX8 133 yX8_isThief cX8_isThief 2 (Option.some FieldType.boolean) 1 8 := ⟨tw344, tw346, tw6, tw53, tw347, ⟨by decide, by decide, by decide +kernel⟩, (RX8, TX8, 18), rfl, rfl⟩
theorem cuX8_137_7 : CU RX8 137 yX7_kind yX7_kind cX7_kind 1 (Option.some FieldType.int) 0 7 := ⟨(RX7, TX7, 3), cX7_kind, 1, (Option.some FieldType.int), rfl, tw348, tw351, tw349, tw350, tw349, tw57, tw364, tw364, by decide +kernel⟩
theorem cuX8_137_6 : CU RX8 137 yX7_kind yX6_kind cX6_kind 1 (Option.some FieldType.int) 0 6 := ⟨(RX6, TX6, 3), cX7_kind, 1, (Option.some FieldType.int), rfl, tw348, tw351, tw349, tw361, tw362, tw59, tw363, tw364, by decide +kernel⟩
theorem cuX8_137_0 : CU RX8 137 yX7_kind yX0_kind cX0_kind 1 (Option.some FieldType.int) 0 0 := ⟨(RX0, TX0, 3), cX7_kind, 1, (Option.some FieldType.int), rfl, tw348, tw351, tw349, tw352, tw353, tw60, tw354, tw364, by decide +kernel⟩
theorem cuX8_137_2 : CU RX8 137 yX7_kind yX2_kind cX2_kind 1 (Option.some FieldType.int) 0 2 := ⟨(RX2, TX2, 3), cX7_kind, 1, (Option.some FieldType.int), rfl, tw348, tw351, tw349, tw355, tw356, tw61, tw357, tw364, by decide +kernel⟩
theorem cuX8_137_3 : CU RX8 137 yX7_kind yX3_kind cX3_kind 1 (Option.some FieldType.int) 0 3 := ⟨(RX3, TX3, 3), cX7_kind, 1, (Option.some FieldType.int), rfl, tw348, tw351, tw349, tw358, tw359, tw62, tw360, tw364, by decide +kernel⟩
theorem csX8_149 : CS RX8 149 yX8_asNumber cX8_asNumber 1 (Option.some FieldType.int) 1 := ⟨tw365, tw366, tw53, tw367, ⟨by decide, by decide, by decide +kernel⟩⟩
theorem cvL_38 : CV RL 38 yX8_as cX8_as 3 (Option.some FieldType.int) 2 8 := ⟨tw368, tw369, tw370, tw53, tw371, ⟨by decide, by decide, by decide +kernel⟩, (RX8, TX8, 18), rfl, rfl⟩
theorem csX8_153 : CS RX8 153 yX8_isOfKind cX8_isOfKind 2 (Option.some FieldType.boolean) 2 := ⟨tw372, tw373, tw53, tw374, ⟨by decide, by decide, by decide +kernel⟩⟩
theorem cvL_42 : CV RL 42 yX8_paid cX8_paid 4 (Option.some FieldType.int) 2 8 := ⟨tw375, tw376, tw377, tw53, tw378, ⟨by decide, by decide, by decide +kernel⟩, (RX8, TX8, 18), rfl, rfl⟩
theorem cvL_47 : CV RL 47 yX8_tenths cX8_tenths 4 (Option.some FieldType.int) 2 8 := ⟨tw379, tw380, tw381, tw53, tw382, ⟨by decide, by decide, by decide +kernel⟩, (RX8, TX8, 18), rfl, rfl⟩
theorem cvL_51 : CV RL 51 yX8_lock cX8_lock 4 (Option.some FieldType.int) 2 8 := ⟨tw383, tw384, tw385, tw53, tw386, ⟨by decide, by decide, by decide +kernel⟩, (RX8, TX8, 18), rfl, rfl⟩
theorem csX8_157 : CS RX8 157 yX8_isHouse cX8_isHouse 1 (Option.some FieldType.boolean) 1 := ⟨tw387, tw275, tw53, tw276, ⟨by decide, by decide, by decide +kernel⟩⟩
theorem cvL_55 : CV RL 55 yX8_dog cX8_dog 4 (Option.some FieldType.int) 2 8 := ⟨tw388, tw389, tw390, tw53, tw391, ⟨by decide, by decide, by decide +kernel⟩, (RX8, TX8, 18), rfl, rfl⟩
theorem cvL_59 : CV RL 59 yX8_spoon cX8_spoon 3 (Option.some FieldType.int) 2 8 := ⟨tw392, tw393, tw394, tw53, tw395, ⟨by decide, by decide, by decide +kernel⟩, (RX8, TX8, 18), rfl, rfl⟩
theorem cvL_63 : CV RL 63 yX8_silver cX8_silver 3 (Option.some FieldType.int) 2 8 := ⟨tw396, tw397, tw398, tw53, tw399, ⟨by decide, by decide, by decide +kernel⟩, (RX8, TX8, 18), rfl, rfl⟩
theorem cvX8_172 : CV RX8 172 yX8_isSpoon cX8_isSpoon 2 (Option.some FieldType.boolean) 1 8 := ⟨tw400, tw402, tw7, tw53, tw403, ⟨by decide, by decide, by decide +kernel⟩, (RX8, TX8, 18), rfl, rfl⟩
theorem cvL_67 : CV RL 67 yX8_worth cX8_worth 2 (Option.some FieldType.int) 1 8 := ⟨tw404, tw405, tw406, tw53, tw407, ⟨by decide, by decide, by decide +kernel⟩, (RX8, TX8, 18), rfl, rfl⟩
theorem cvX8_175 : CV RX8 175 yX8_worthIn cX8_worthIn 5 (Option.some FieldType.int) 2 8 := ⟨tw408, tw410, tw8, tw53, tw411, ⟨by decide, by decide, by decide +kernel⟩, (RX8, TX8, 18), rfl, rfl⟩
theorem cvL_72 : CV RL 72 yX8_month cX8_month 2 (Option.some FieldType.int) 0 8 := ⟨tw412, tw413, tw414, tw53, tw415, ⟨by decide, by decide, by decide +kernel⟩, (RX8, TX8, 18), rfl, rfl⟩
theorem cvX8_185 : CV RX8 185 yX8_monthWithout cX8_monthWithout 5 (Option.some FieldType.int) 2 8 := ⟨tw416, tw418, tw9, tw53, tw419, ⟨by decide, by decide, by decide +kernel⟩, (RX8, TX8, 18), rfl, rfl⟩
theorem cvX8_238 : CV RX8 238 yX8_visit cX8_visit 9 (Option.some FieldType.int) 2 8 := ⟨tw420, tw422, tw10, tw53, tw423, ⟨by decide, by decide, by decide +kernel⟩, (RX8, TX8, 18), rfl, rfl⟩
theorem cuX8_287_7 : CU RX8 287 yX7_robs yX7_robs cX7_robs 2 (Option.some FieldType.int) 1 7 := ⟨(RX7, TX7, 3), cX7_robs, 2, (Option.some FieldType.int), rfl, tw424, tw427, tw425, tw426, tw425, tw57, tw432, tw432, by decide +kernel⟩
theorem cuX8_287_6 : CU RX8 287 yX7_robs yX7_robs cX7_robs 2 (Option.some FieldType.int) 1 6 := ⟨(RX6, TX6, 3), cX7_robs, 2, (Option.some FieldType.int), rfl, tw424, tw427, tw425, tw431, tw425, tw57, tw432, tw432, by decide +kernel⟩
theorem cuX8_287_0 : CU RX8 287 yX7_robs yX7_robs cX7_robs 2 (Option.some FieldType.int) 1 0 := ⟨(RX0, TX0, 3), cX7_robs, 2, (Option.some FieldType.int), rfl, tw424, tw427, tw425, tw428, tw425, tw57, tw432, tw432, by decide +kernel⟩
theorem cuX8_287_2 : CU RX8 287 yX7_robs yX7_robs cX7_robs 2 (Option.some FieldType.int) 1 2 := ⟨(RX2, TX2, 3), cX7_robs, 2, (Option.some FieldType.int), rfl, tw424, tw427, tw425, tw429, tw425, tw57, tw432, tw432, by decide +kernel⟩
theorem cuX8_287_3 : CU RX8 287 yX7_robs yX7_robs cX7_robs 2 (Option.some FieldType.int) 1 3 := ⟨(RX3, TX3, 3), cX7_robs, 2, (Option.some FieldType.int), rfl, tw424, tw427, tw425, tw430, tw425, tw57, tw432, tw432, by decide +kernel⟩
theorem cuX8_290_7 : CU RX8 290 yX7_isKeptOut yX7_isKeptOut cX7_isKeptOut 3 (Option.some FieldType.boolean) 2 7 := ⟨(RX7, TX7, 3), cX7_isKeptOut, 3, (Option.some FieldType.boolean), rfl, tw433, tw436, tw434, tw435, tw434, tw57, tw443, tw443, by decide +kernel⟩
theorem cuX8_290_6 : CU RX8 290 yX7_isKeptOut yX7_isKeptOut cX7_isKeptOut 3 (Option.some FieldType.boolean) 2 6 := ⟨(RX6, TX6, 3), cX7_isKeptOut, 3, (Option.some FieldType.boolean), rfl, tw433, tw436, tw434, tw442, tw434, tw57, tw443, tw443, by decide +kernel⟩
theorem cuX8_290_0 : CU RX8 290 yX7_isKeptOut yX7_isKeptOut cX7_isKeptOut 3 (Option.some FieldType.boolean) 2 0 := ⟨(RX0, TX0, 3), cX7_isKeptOut, 3, (Option.some FieldType.boolean), rfl, tw433, tw436, tw434, tw437, tw434, tw57, tw443, tw443, by decide +kernel⟩
theorem cuX8_290_2 : CU RX8 290 yX7_isKeptOut yX7_isKeptOut cX7_isKeptOut 3 (Option.some FieldType.boolean) 2 2 := ⟨(RX2, TX2, 3), cX7_isKeptOut, 3, (Option.some FieldType.boolean), rfl, tw433, tw436, tw434, tw438, tw434, tw57, tw443, tw443, by decide +kernel⟩
theorem cuX8_290_3 : CU RX8 290 yX7_isKeptOut yX3_isKeptOut cX3_isKeptOut 3 (Option.some FieldType.boolean) 2 3 := ⟨(RX3, TX3, 3), cX7_isKeptOut, 3, (Option.some FieldType.boolean), rfl, tw433, tw436, tw434, tw439, tw440, tw62, tw441, tw443, by decide +kernel⟩
theorem cuX8_294_7 : CU RX8 294 yX7_mostTaken yX7_mostTaken cX7_mostTaken 1 (Option.some FieldType.int) 0 7 := ⟨(RX7, TX7, 3), cX7_mostTaken, 1, (Option.some FieldType.int), rfl, tw444, tw447, tw445, tw446, tw445, tw57, tw456, tw456, by decide +kernel⟩
theorem cuX8_294_6 : CU RX8 294 yX7_mostTaken yX6_mostTaken cX6_mostTaken 1 (Option.some FieldType.int) 0 6 := ⟨(RX6, TX6, 3), cX7_mostTaken, 1, (Option.some FieldType.int), rfl, tw444, tw447, tw445, tw455, tw453, tw59, tw454, tw456, by decide +kernel⟩
theorem cuX8_294_0 : CU RX8 294 yX7_mostTaken yX7_mostTaken cX7_mostTaken 1 (Option.some FieldType.int) 0 0 := ⟨(RX0, TX0, 3), cX7_mostTaken, 1, (Option.some FieldType.int), rfl, tw444, tw447, tw445, tw448, tw445, tw57, tw456, tw456, by decide +kernel⟩
theorem cuX8_294_2 : CU RX8 294 yX7_mostTaken yX2_mostTaken cX2_mostTaken 1 (Option.some FieldType.int) 0 2 := ⟨(RX2, TX2, 3), cX7_mostTaken, 1, (Option.some FieldType.int), rfl, tw444, tw447, tw445, tw449, tw450, tw61, tw451, tw456, by decide +kernel⟩
theorem cuX8_294_3 : CU RX8 294 yX7_mostTaken yX6_mostTaken cX6_mostTaken 1 (Option.some FieldType.int) 0 3 := ⟨(RX3, TX3, 3), cX7_mostTaken, 1, (Option.some FieldType.int), rfl, tw444, tw447, tw445, tw452, tw453, tw59, tw454, tw456, by decide +kernel⟩
theorem cvX8_297 : CV RX8 297 yX8_picked cX8_picked 6 (Option.some FieldType.int) 3 8 := ⟨tw457, tw459, tw11, tw53, tw460, ⟨by decide, by decide, by decide +kernel⟩, (RX8, TX8, 18), rfl, rfl⟩
theorem cuX8_301_7 : CU RX8 301 yX7_likesBetter yX7_likesBetter cX7_likesBetter 3 (Option.some FieldType.boolean) 2 7 := ⟨(RX7, TX7, 3), cX7_likesBetter, 3, (Option.some FieldType.boolean), rfl, tw461, tw464, tw462, tw463, tw462, tw57, tw471, tw471, by decide +kernel⟩
theorem cuX8_301_6 : CU RX8 301 yX7_likesBetter yX7_likesBetter cX7_likesBetter 3 (Option.some FieldType.boolean) 2 6 := ⟨(RX6, TX6, 3), cX7_likesBetter, 3, (Option.some FieldType.boolean), rfl, tw461, tw464, tw462, tw470, tw462, tw57, tw471, tw471, by decide +kernel⟩
theorem cuX8_301_0 : CU RX8 301 yX7_likesBetter yX0_likesBetter cX0_likesBetter 3 (Option.some FieldType.boolean) 2 0 := ⟨(RX0, TX0, 3), cX7_likesBetter, 3, (Option.some FieldType.boolean), rfl, tw461, tw464, tw462, tw465, tw466, tw60, tw467, tw471, by decide +kernel⟩
theorem cuX8_301_2 : CU RX8 301 yX7_likesBetter yX7_likesBetter cX7_likesBetter 3 (Option.some FieldType.boolean) 2 2 := ⟨(RX2, TX2, 3), cX7_likesBetter, 3, (Option.some FieldType.boolean), rfl, tw461, tw464, tw462, tw468, tw462, tw57, tw471, tw471, by decide +kernel⟩
theorem cuX8_301_3 : CU RX8 301 yX7_likesBetter yX7_likesBetter cX7_likesBetter 3 (Option.some FieldType.boolean) 2 3 := ⟨(RX3, TX3, 3), cX7_likesBetter, 3, (Option.some FieldType.boolean), rfl, tw461, tw464, tw462, tw469, tw462, tw57, tw471, tw471, by decide +kernel⟩
theorem cvX8_241 : CV RX8 241 yX1_lapseLocks cX1_lapseLocks 2 none 0 1 := ⟨tw472, tw473, tw474, tw56, tw475, ⟨by decide, by decide, by decide +kernel⟩, (RX1, TX1, 8), rfl, rfl⟩
theorem cvL_76 : CV RL 76 yX8_where cX8_where 4 (Option.some FieldType.int) 2 8 := ⟨tw479, tw480, tw481, tw53, tw482, ⟨by decide, by decide, by decide +kernel⟩, (RX8, TX8, 18), rfl, rfl⟩
theorem cvX8_188 : CV RX8 188 yX1_takeOver cX1_takeOver 3 none 1 1 := ⟨tw483, tw484, tw485, tw56, tw486, ⟨by decide, by decide, by decide +kernel⟩, (RX1, TX1, 8), rfl, rfl⟩
theorem cvL_80 : CV RL 80 yX8_chance cX8_chance 11 (Option.some FieldType.long) 4 8 := ⟨tw487, tw488, tw489, tw53, tw490, ⟨by decide, by decide, by decide +kernel⟩, (RX8, TX8, 18), rfl, rfl⟩
theorem cvX8_198 : CV RX8 198 yX8_spreadOdds cX8_spreadOdds 7 (Option.some FieldType.long) 2 8 := ⟨tw494, tw496, tw12, tw53, tw497, ⟨by decide, by decide, by decide +kernel⟩, (RX8, TX8, 18), rfl, rfl⟩
theorem cvX8_312 : CV RX8 312 yX8_spreadBy cX8_spreadBy 9 none 1 8 := ⟨tw498, tw500, tw13, tw53, tw501, ⟨by decide, by decide, by decide +kernel⟩, (RX8, TX8, 18), rfl, rfl⟩
theorem csX8_202 : CS RX8 202 yX8_greatestDivisor cX8_greatestDivisor 7 (Option.some FieldType.long) 2 := ⟨tw503, tw504, tw53, tw505, ⟨by decide, by decide, by decide +kernel⟩⟩
theorem cvL_85 : CV RL 85 yX8_whom cX8_whom 5 (Option.some FieldType.int) 3 8 := ⟨tw506, tw507, tw508, tw53, tw509, ⟨by decide, by decide, by decide +kernel⟩, (RX8, TX8, 18), rfl, rfl⟩
theorem cvX8_209 : CV RX8 209 yX8_bestSet cX8_bestSet 8 (Option.some FieldType.int) 2 8 := ⟨tw513, tw515, tw14, tw53, tw516, ⟨by decide, by decide, by decide +kernel⟩, (RX8, TX8, 18), rfl, rfl⟩
theorem cvX8_318 : CV RX8 318 yX8_couldBePaidBy cX8_couldBePaidBy 4 (Option.some FieldType.int) 1 8 := ⟨tw517, tw519, tw15, tw53, tw520, ⟨by decide, by decide, by decide +kernel⟩, (RX8, TX8, 18), rfl, rfl⟩
theorem cvX8_213 : CV RX8 213 yX8_leftBy cX8_leftBy 6 (Option.some FieldType.int) 3 8 := ⟨tw521, tw523, tw16, tw53, tw524, ⟨by decide, by decide, by decide +kernel⟩, (RX8, TX8, 18), rfl, rfl⟩
theorem csX8_321 : CS RX8 321 yJ6_bitCount_0f7a4 cJ6_bitCount_0f7a4 1 (Option.some FieldType.int) 1 := ⟨tw525, tw526, tw64, tw527, ⟨by decide, by decide, by decide +kernel⟩⟩
theorem cvL_90 : CV RL 90 yX8_still cX8_still 2 (Option.some FieldType.int) 0 8 := ⟨tw531, tw532, tw533, tw53, tw534, ⟨by decide, by decide, by decide +kernel⟩, (RX8, TX8, 18), rfl, rfl⟩
theorem cvL_94 : CV RL 94 yX8_seen cX8_seen 4 (Option.some FieldType.int) 2 8 := ⟨tw535, tw536, tw537, tw53, tw538, ⟨by decide, by decide, by decide +kernel⟩, (RX8, TX8, 18), rfl, rfl⟩
theorem cvL_98 : CV RL 98 yX8_who cX8_who 3 (Option.some FieldType.int) 0 8 := ⟨tw539, tw540, tw541, tw53, tw542, ⟨by decide, by decide, by decide +kernel⟩, (RX8, TX8, 18), rfl, rfl⟩
theorem cvX8_217 : CV RX8 217 yX8_wouldBeAsSeen cX8_wouldBeAsSeen 3 (Option.some FieldType.boolean) 1 8 := ⟨tw543, tw545, tw17, tw53, tw546, ⟨by decide, by decide, by decide +kernel⟩, (RX8, TX8, 18), rfl, rfl⟩
theorem cvL_102 : CV RL 102 yX8_owes cX8_owes 5 (Option.some FieldType.int) 2 8 := ⟨tw547, tw548, tw549, tw53, tw550, ⟨by decide, by decide, by decide +kernel⟩, (RX8, TX8, 18), rfl, rfl⟩
theorem cvL_106 : CV RL 106 yX8_fewest cX8_fewest 2 (Option.some FieldType.int) 0 8 := ⟨tw551, tw552, tw553, tw53, tw554, ⟨by decide, by decide, by decide +kernel⟩, (RX8, TX8, 18), rfl, rfl⟩
theorem cvX8_220 : CV RX8 220 yX8_netAll cX8_netAll 2 none 0 8 := ⟨tw555, tw557, tw18, tw53, tw558, ⟨by decide, by decide, by decide +kernel⟩, (RX8, TX8, 18), rfl, rfl⟩
theorem csX8_223 : CS RX8 223 yJ6_numberOfTrailingZeros_0f7a4 cJ6_numberOfTrailingZeros_0f7a4 2 (Option.some FieldType.int) 1 := ⟨tw559, tw560, tw64, tw561, ⟨by decide, by decide, by decide +kernel⟩⟩
theorem cvX8_229 : CV RX8 229 yX8_mostGroupsWithOneLess cX8_mostGroupsWithOneLess 4 (Option.some FieldType.int) 1 8 := ⟨tw563, tw565, tw19, tw53, tw566, ⟨by decide, by decide, by decide +kernel⟩, (RX8, TX8, 18), rfl, rfl⟩
theorem cvL_110 : CV RL 110 yX8_months cX8_months 8 (Option.some FieldType.int) 3 8 := ⟨tw568, tw569, tw570, tw53, tw571, ⟨by decide, by decide, by decide +kernel⟩, (RX8, TX8, 18), rfl, rfl⟩
theorem csX8_232 : CS RX8 232 yX8_nextSeed cX8_nextSeed 1 (Option.some FieldType.int) 1 := ⟨tw572, tw573, tw53, tw574, ⟨by decide, by decide, by decide +kernel⟩⟩
theorem csX8_235 : CS RX8 235 yX8_drawOfTen cX8_drawOfTen 1 (Option.some FieldType.int) 1 := ⟨tw578, tw579, tw53, tw580, ⟨by decide, by decide, by decide +kernel⟩⟩
theorem cvX8_244 : CV RX8 244 yX8_worthAtHome cX8_worthAtHome 4 (Option.some FieldType.int) 1 8 := ⟨tw582, tw584, tw20, tw53, tw585, ⟨by decide, by decide, by decide +kernel⟩, (RX8, TX8, 18), rfl, rfl⟩
theorem cvL_114 : CV RL 114 yX8_image cX8_image 1 (Option.some FieldType.int) 0 8 := ⟨tw586, tw587, tw588, tw53, tw589, ⟨by decide, by decide, by decide +kernel⟩, (RX8, TX8, 18), rfl, rfl⟩
theorem cvL_118 : CV RL 118 yX8_restore cX8_restore 1 (Option.some FieldType.int) 0 8 := ⟨tw590, tw591, tw592, tw53, tw593, ⟨by decide, by decide, by decide +kernel⟩, (RX8, TX8, 18), rfl, rfl⟩
theorem cvL_122 : CV RL 122 yX8_count cX8_count 2 (Option.some FieldType.int) 1 8 := ⟨tw594, tw595, tw596, tw53, tw597, ⟨by decide, by decide, by decide +kernel⟩, (RX8, TX8, 18), rfl, rfl⟩
theorem cvX8_248 : CV RX8 248 yX8_spoonsAway cX8_spoonsAway 3 (Option.some FieldType.int) 0 8 := ⟨tw598, tw600, tw21, tw53, tw601, ⟨by decide, by decide, by decide +kernel⟩, (RX8, TX8, 18), rfl, rfl⟩
theorem cvL_126 : CV RL 126 yX8_digest cX8_digest 4 (Option.some FieldType.long) 0 8 := ⟨tw602, tw603, tw604, tw53, tw605, ⟨by decide, by decide, by decide +kernel⟩, (RX8, TX8, 18), rfl, rfl⟩
theorem cvX8_253 : CV RX8 253 yX8_withThieves cX8_withThieves 7 (Option.some FieldType.long) 1 8 := ⟨tw607, tw609, tw22, tw53, tw610, ⟨by decide, by decide, by decide +kernel⟩, (RX8, TX8, 18), rfl, rfl⟩
theorem cvX8_331 : CV RX8 331 yX8_about cX8_about 4 (Option.some FieldType.int) 2 8 := ⟨tw611, tw341, tw342, tw53, tw343, ⟨by decide, by decide, by decide +kernel⟩, (RX8, TX8, 18), rfl, rfl⟩
theorem csX8_266 : CS RX8 266 yX8_with cX8_with 4 (Option.some FieldType.long) 2 := ⟨tw612, tw613, tw53, tw614, ⟨by decide, by decide, by decide +kernel⟩⟩
theorem cvX8_257 : CV RX8 257 yX8_withHouses cX8_withHouses 6 (Option.some FieldType.long) 1 8 := ⟨tw616, tw618, tw23, tw53, tw619, ⟨by decide, by decide, by decide +kernel⟩, (RX8, TX8, 18), rfl, rfl⟩
theorem cvX8_260 : CV RX8 260 yX8_withSpoons cX8_withSpoons 7 (Option.some FieldType.long) 1 8 := ⟨tw620, tw622, tw24, tw53, tw623, ⟨by decide, by decide, by decide +kernel⟩, (RX8, TX8, 18), rfl, rfl⟩
theorem cvX8_334 : CV RX8 334 yX8_silver cX8_silver 3 (Option.some FieldType.int) 2 8 := ⟨tw624, tw397, tw398, tw53, tw399, ⟨by decide, by decide, by decide +kernel⟩, (RX8, TX8, 18), rfl, rfl⟩
theorem cvX8_263 : CV RX8 263 yX8_fewest cX8_fewest 2 (Option.some FieldType.int) 0 8 := ⟨tw625, tw552, tw553, tw53, tw554, ⟨by decide, by decide, by decide +kernel⟩, (RX8, TX8, 18), rfl, rfl⟩
theorem cvX8_269 : CV RX8 269 yX8_withOutlook cX8_withOutlook 7 (Option.some FieldType.long) 1 8 := ⟨tw626, tw628, tw25, tw53, tw629, ⟨by decide, by decide, by decide +kernel⟩, (RX8, TX8, 18), rfl, rfl⟩
theorem cvX8_337 : CV RX8 337 yX8_still cX8_still 2 (Option.some FieldType.int) 0 8 := ⟨tw630, tw532, tw533, tw53, tw534, ⟨by decide, by decide, by decide +kernel⟩, (RX8, TX8, 18), rfl, rfl⟩
theorem cvX8_340 : CV RX8 340 yX8_who cX8_who 3 (Option.some FieldType.int) 0 8 := ⟨tw631, tw540, tw541, tw53, tw542, ⟨by decide, by decide, by decide +kernel⟩, (RX8, TX8, 18), rfl, rfl⟩
theorem cvX8_272 : CV RX8 272 yX8_count cX8_count 2 (Option.some FieldType.int) 1 8 := ⟨tw632, tw595, tw596, tw53, tw597, ⟨by decide, by decide, by decide +kernel⟩, (RX8, TX8, 18), rfl, rfl⟩
theorem ciL_12 : CI RL 12 yX9_init cX9_init 1 0 := ⟨tw635, tw636, tw58, tw637, ⟨by decide, by decide, by decide +kernel⟩, rfl⟩
theorem cvL_19 : CV RL 19 yX9_letters cX9_letters 9 (Option.some FieldType.int) 1 9 := ⟨tw736, tw737, tw738, tw58, tw739, ⟨by decide, by decide, by decide +kernel⟩, (RX9, TX9, 32), rfl, rfl⟩
theorem cvL_24 : CV RL 24 yX9_blank cX9_blank 2 (Option.some FieldType.int) 0 9 := ⟨tw741, tw742, tw743, tw58, tw744, ⟨by decide, by decide, by decide +kernel⟩, (RX9, TX9, 32), rfl, rfl⟩
theorem cvL_28 : CV RL 28 yX9_fault cX9_fault 1 (Option.some FieldType.int) 0 9 := ⟨tw745, tw746, tw747, tw58, tw748, ⟨by decide, by decide, by decide +kernel⟩, (RX9, TX9, 32), rfl, rfl⟩
theorem cvX9_87 : CV RX9 87 yX9_faultOf cX9_faultOf 2 (Option.some FieldType.int) 0 9 := ⟨tw749, tw751, tw26, tw58, tw752, ⟨by decide, by decide, by decide +kernel⟩, (RX9, TX9, 32), rfl, rfl⟩
theorem cvX9_84 : CV RX9 84 yX9_go cX9_go 2 (Option.some FieldType.boolean) 1 9 := ⟨tw753, tw755, tw27, tw58, tw756, ⟨by decide, by decide, by decide +kernel⟩, (RX9, TX9, 32), rfl, rfl⟩
theorem csX9_76 : CS RX9 76 yX9_kindOf cX9_kindOf 1 (Option.some FieldType.int) 1 := ⟨tw757, tw758, tw58, tw759, ⟨by decide, by decide, by decide +kernel⟩⟩
theorem cvX9_80 : CV RX9 80 yX9_goDigit cX9_goDigit 5 (Option.some FieldType.boolean) 1 9 := ⟨tw760, tw762, tw28, tw58, tw763, ⟨by decide, by decide, by decide +kernel⟩, (RX9, TX9, 32), rfl, rfl⟩
theorem csX9_70 : CS RX9 70 yX9_in cX9_in 6 (Option.some FieldType.boolean) 3 := ⟨tw765, tw766, tw58, tw767, ⟨by decide, by decide, by decide +kernel⟩⟩
theorem cvL_32 : CV RL 32 yX9_contracts cX9_contracts 2 (Option.some FieldType.int) 0 9 := ⟨tw769, tw770, tw771, tw58, tw772, ⟨by decide, by decide, by decide +kernel⟩, (RX9, TX9, 32), rfl, rfl⟩
theorem cvL_37 : CV RL 37 yX9_about cX9_about 3 (Option.some FieldType.int) 2 9 := ⟨tw773, tw774, tw775, tw58, tw776, ⟨by decide, by decide, by decide +kernel⟩, (RX9, TX9, 32), rfl, rfl⟩
theorem cvX9_102 : CV RX9 102 yX9_isThief cX9_isThief 2 (Option.some FieldType.boolean) 1 9 := ⟨tw777, tw779, tw29, tw58, tw780, ⟨by decide, by decide, by decide +kernel⟩, (RX9, TX9, 32), rfl, rfl⟩
theorem cvX9_105 : CV RX9 105 yX9_tell cX9_tell 3 (Option.some FieldType.int) 2 9 := ⟨tw781, tw783, tw30, tw58, tw784, ⟨by decide, by decide, by decide +kernel⟩, (RX9, TX9, 32), rfl, rfl⟩
theorem cvL_41 : CV RL 41 yX9_as cX9_as 5 (Option.some FieldType.int) 2 9 := ⟨tw786, tw787, tw788, tw58, tw789, ⟨by decide, by decide, by decide +kernel⟩, (RX9, TX9, 32), rfl, rfl⟩
theorem cvL_46 : CV RL 46 yX9_paid cX9_paid 4 (Option.some FieldType.int) 2 9 := ⟨tw791, tw792, tw793, tw58, tw794, ⟨by decide, by decide, by decide +kernel⟩, (RX9, TX9, 32), rfl, rfl⟩
theorem cvL_50 : CV RL 50 yX9_tenths cX9_tenths 4 (Option.some FieldType.int) 2 9 := ⟨tw795, tw796, tw797, tw58, tw798, ⟨by decide, by decide, by decide +kernel⟩, (RX9, TX9, 32), rfl, rfl⟩
theorem cvL_54 : CV RL 54 yX9_lock cX9_lock 4 (Option.some FieldType.int) 2 9 := ⟨tw800, tw801, tw802, tw58, tw803, ⟨by decide, by decide, by decide +kernel⟩, (RX9, TX9, 32), rfl, rfl⟩
theorem csX9_116 : CS RX9 116 yX9_isHouse cX9_isHouse 1 (Option.some FieldType.boolean) 1 := ⟨tw804, tw805, tw58, tw806, ⟨by decide, by decide, by decide +kernel⟩⟩
theorem cvL_58 : CV RL 58 yX9_dog cX9_dog 4 (Option.some FieldType.int) 2 9 := ⟨tw807, tw808, tw809, tw58, tw810, ⟨by decide, by decide, by decide +kernel⟩, (RX9, TX9, 32), rfl, rfl⟩
theorem cvL_62 : CV RL 62 yX9_spoon cX9_spoon 3 (Option.some FieldType.int) 2 9 := ⟨tw811, tw812, tw813, tw58, tw814, ⟨by decide, by decide, by decide +kernel⟩, (RX9, TX9, 32), rfl, rfl⟩
theorem cvL_66 : CV RL 66 yX9_silver cX9_silver 3 (Option.some FieldType.int) 2 9 := ⟨tw816, tw817, tw818, tw58, tw819, ⟨by decide, by decide, by decide +kernel⟩, (RX9, TX9, 32), rfl, rfl⟩
theorem cvX9_124 : CV RX9 124 yX9_isSpoon cX9_isSpoon 2 (Option.some FieldType.boolean) 1 9 := ⟨tw820, tw822, tw31, tw58, tw823, ⟨by decide, by decide, by decide +kernel⟩, (RX9, TX9, 32), rfl, rfl⟩
theorem cvL_71 : CV RL 71 yX9_worth cX9_worth 2 (Option.some FieldType.int) 1 9 := ⟨tw824, tw825, tw826, tw58, tw827, ⟨by decide, by decide, by decide +kernel⟩, (RX9, TX9, 32), rfl, rfl⟩
theorem cvX9_127 : CV RX9 127 yX9_worthOf cX9_worthOf 4 (Option.some FieldType.int) 1 9 := ⟨tw828, tw830, tw32, tw58, tw831, ⟨by decide, by decide, by decide +kernel⟩, (RX9, TX9, 32), rfl, rfl⟩
theorem cvL_75 : CV RL 75 yX9_month cX9_month 3 (Option.some FieldType.int) 0 9 := ⟨tw832, tw833, tw834, tw58, tw835, ⟨by decide, by decide, by decide +kernel⟩, (RX9, TX9, 32), rfl, rfl⟩
theorem cvX9_147 : CV RX9 147 yX9_lacks cX9_lacks 1 (Option.some FieldType.boolean) 0 9 := ⟨tw836, tw838, tw33, tw58, tw839, ⟨by decide, by decide, by decide +kernel⟩, (RX9, TX9, 32), rfl, rfl⟩
theorem cvX9_151 : CV RX9 151 yX9_begin cX9_begin 2 none 0 9 := ⟨tw840, tw842, tw34, tw58, tw843, ⟨by decide, by decide, by decide +kernel⟩, (RX9, TX9, 32), rfl, rfl⟩
theorem cvX9_154 : CV RX9 154 yX9_pass cX9_pass 6 (Option.some FieldType.int) 2 9 := ⟨tw844, tw846, tw35, tw58, tw847, ⟨by decide, by decide, by decide +kernel⟩, (RX9, TX9, 32), rfl, rfl⟩
theorem cvX9_144 : CV RX9 144 yX9_visit cX9_visit 8 (Option.some FieldType.int) 2 9 := ⟨tw848, tw850, tw36, tw58, tw851, ⟨by decide, by decide, by decide +kernel⟩, (RX9, TX9, 32), rfl, rfl⟩
theorem cvX9_130 : CV RX9 130 yX9_fromOf cX9_fromOf 3 (Option.some FieldType.int) 2 9 := ⟨tw852, tw854, tw37, tw58, tw855, ⟨by decide, by decide, by decide +kernel⟩, (RX9, TX9, 32), rfl, rfl⟩
theorem cvX9_133 : CV RX9 133 yX9_mayTake cX9_mayTake 4 (Option.some FieldType.boolean) 2 9 := ⟨tw856, tw858, tw38, tw58, tw859, ⟨by decide, by decide, by decide +kernel⟩, (RX9, TX9, 32), rfl, rfl⟩
theorem cvX9_137 : CV RX9 137 yX9_pick cX9_pick 7 (Option.some FieldType.int) 2 9 := ⟨tw860, tw862, tw39, tw58, tw863, ⟨by decide, by decide, by decide +kernel⟩, (RX9, TX9, 32), rfl, rfl⟩
theorem cvX9_141 : CV RX9 141 yX9_toOf cX9_toOf 3 (Option.some FieldType.int) 2 9 := ⟨tw864, tw866, tw40, tw58, tw867, ⟨by decide, by decide, by decide +kernel⟩, (RX9, TX9, 32), rfl, rfl⟩
theorem cvL_79 : CV RL 79 yX9_where cX9_where 5 (Option.some FieldType.int) 2 9 := ⟨tw868, tw869, tw870, tw58, tw871, ⟨by decide, by decide, by decide +kernel⟩, (RX9, TX9, 32), rfl, rfl⟩
theorem cvL_84 : CV RL 84 yX9_chance cX9_chance 13 (Option.some FieldType.long) 4 9 := ⟨tw873, tw874, tw875, tw58, tw876, ⟨by decide, by decide, by decide +kernel⟩, (RX9, TX9, 32), rfl, rfl⟩
theorem csX9_173 : CS RX9 173 yX9_term cX9_term 11 (Option.some FieldType.long) 3 := ⟨tw881, tw882, tw58, tw883, ⟨by decide, by decide, by decide +kernel⟩⟩
theorem cvL_89 : CV RL 89 yX9_whom cX9_whom 4 (Option.some FieldType.int) 3 9 := ⟨tw884, tw885, tw886, tw58, tw887, ⟨by decide, by decide, by decide +kernel⟩, (RX9, TX9, 32), rfl, rfl⟩
theorem cvX9_189 : CV RX9 189 yX9_whomOf cX9_whomOf 11 (Option.some FieldType.int) 3 9 := ⟨tw892, tw894, tw41, tw58, tw895, ⟨by decide, by decide, by decide +kernel⟩, (RX9, TX9, 32), rfl, rfl⟩
theorem cvX9_178 : CV RX9 178 yX9_inHouse cX9_inHouse 4 (Option.some FieldType.int) 1 9 := ⟨tw897, tw899, tw42, tw58, tw900, ⟨by decide, by decide, by decide +kernel⟩, (RX9, TX9, 32), rfl, rfl⟩
theorem csX9_181 : CS RX9 181 yX9_ones cX9_ones 3 (Option.some FieldType.int) 1 := ⟨tw901, tw902, tw58, tw903, ⟨by decide, by decide, by decide +kernel⟩⟩
theorem cvL_93 : CV RL 93 yX9_still cX9_still 1 (Option.some FieldType.int) 0 9 := ⟨tw904, tw905, tw906, tw58, tw907, ⟨by decide, by decide, by decide +kernel⟩, (RX9, TX9, 32), rfl, rfl⟩
theorem cvX9_193 : CV RX9 193 yX9_stillOf cX9_stillOf 2 (Option.some FieldType.int) 0 9 := ⟨tw908, tw910, tw43, tw58, tw911, ⟨by decide, by decide, by decide +kernel⟩, (RX9, TX9, 32), rfl, rfl⟩
theorem cvL_97 : CV RL 97 yX9_seen cX9_seen 4 (Option.some FieldType.int) 2 9 := ⟨tw912, tw913, tw914, tw58, tw915, ⟨by decide, by decide, by decide +kernel⟩, (RX9, TX9, 32), rfl, rfl⟩
theorem cvL_101 : CV RL 101 yX9_who cX9_who 1 (Option.some FieldType.int) 0 9 := ⟨tw916, tw917, tw918, tw58, tw919, ⟨by decide, by decide, by decide +kernel⟩, (RX9, TX9, 32), rfl, rfl⟩
theorem cvX9_199 : CV RX9 199 yX9_whoOf cX9_whoOf 3 (Option.some FieldType.int) 0 9 := ⟨tw920, tw922, tw44, tw58, tw923, ⟨by decide, by decide, by decide +kernel⟩, (RX9, TX9, 32), rfl, rfl⟩
theorem cvX9_196 : CV RX9 196 yX9_isSeenSo cX9_isSeenSo 5 (Option.some FieldType.boolean) 1 9 := ⟨tw924, tw926, tw45, tw58, tw927, ⟨by decide, by decide, by decide +kernel⟩, (RX9, TX9, 32), rfl, rfl⟩
theorem cvL_105 : CV RL 105 yX9_owes cX9_owes 3 (Option.some FieldType.int) 2 9 := ⟨tw928, tw929, tw930, tw58, tw931, ⟨by decide, by decide, by decide +kernel⟩, (RX9, TX9, 32), rfl, rfl⟩
theorem cvX9_202 : CV RX9 202 yX9_owesOf cX9_owesOf 5 (Option.some FieldType.int) 2 9 := ⟨tw932, tw934, tw46, tw58, tw935, ⟨by decide, by decide, by decide +kernel⟩, (RX9, TX9, 32), rfl, rfl⟩
theorem cvL_109 : CV RL 109 yX9_fewest cX9_fewest 1 (Option.some FieldType.int) 0 9 := ⟨tw936, tw937, tw938, tw58, tw939, ⟨by decide, by decide, by decide +kernel⟩, (RX9, TX9, 32), rfl, rfl⟩
theorem cvX9_208 : CV RX9 208 yX9_fewestOf cX9_fewestOf 4 (Option.some FieldType.int) 0 9 := ⟨tw940, tw942, tw47, tw58, tw943, ⟨by decide, by decide, by decide +kernel⟩, (RX9, TX9, 32), rfl, rfl⟩
theorem cvX9_205 : CV RX9 205 yX9_balance cX9_balance 4 (Option.some FieldType.int) 1 9 := ⟨tw944, tw946, tw48, tw58, tw947, ⟨by decide, by decide, by decide +kernel⟩, (RX9, TX9, 32), rfl, rfl⟩
theorem cvL_113 : CV RL 113 yX9_months cX9_months 8 (Option.some FieldType.int) 3 9 := ⟨tw948, tw949, tw950, tw58, tw951, ⟨by decide, by decide, by decide +kernel⟩, (RX9, TX9, 32), rfl, rfl⟩
theorem cvX9_221 : CV RX9 221 yX9_draw cX9_draw 2 (Option.some FieldType.int) 1 9 := ⟨tw952, tw954, tw49, tw58, tw955, ⟨by decide, by decide, by decide +kernel⟩, (RX9, TX9, 32), rfl, rfl⟩
theorem cvL_117 : CV RL 117 yX9_image cX9_image 1 (Option.some FieldType.int) 0 9 := ⟨tw960, tw961, tw962, tw58, tw963, ⟨by decide, by decide, by decide +kernel⟩, (RX9, TX9, 32), rfl, rfl⟩
theorem csX9_224 : CS RX9 224 yX9_copy cX9_copy 3 none 2 := ⟨tw964, tw965, tw58, tw966, ⟨by decide, by decide, by decide +kernel⟩⟩
theorem cvL_121 : CV RL 121 yX9_restore cX9_restore 1 (Option.some FieldType.int) 0 9 := ⟨tw967, tw968, tw969, tw58, tw970, ⟨by decide, by decide, by decide +kernel⟩, (RX9, TX9, 32), rfl, rfl⟩
theorem cvL_125 : CV RL 125 yX9_count cX9_count 2 (Option.some FieldType.int) 1 9 := ⟨tw971, tw972, tw973, tw58, tw974, ⟨by decide, by decide, by decide +kernel⟩, (RX9, TX9, 32), rfl, rfl⟩
theorem cvX9_243 : CV RX9 243 yX9_countOf cX9_countOf 4 (Option.some FieldType.int) 1 9 := ⟨tw975, tw977, tw50, tw58, tw978, ⟨by decide, by decide, by decide +kernel⟩, (RX9, TX9, 32), rfl, rfl⟩
theorem cvL_130 : CV RL 130 yX9_digest cX9_digest 3 (Option.some FieldType.long) 0 9 := ⟨tw979, tw980, tw981, tw58, tw982, ⟨by decide, by decide, by decide +kernel⟩, (RX9, TX9, 32), rfl, rfl⟩
theorem cvX9_254 : CV RX9 254 yX9_say cX9_say 3 none 1 9 := ⟨tw984, tw986, tw51, tw58, tw987, ⟨by decide, by decide, by decide +kernel⟩, (RX9, TX9, 32), rfl, rfl⟩
