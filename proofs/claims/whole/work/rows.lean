section
-- ===== PART A: goes FIRST, ahead of the names: the tables' words, and 'selects' of the private methods out of them =====
/-- a private method of a class that the tables say can be made, by its rows of tables_1 -/
def lw_okq (q : MethodName × Nat) : Prop := (q.1.cls ≠ "java/lang/invoke/MethodHandle" ∧ q.1.cls ≠ "java/lang/invoke/VarHandle") ∧ Cond.instantiable q.1.cls q.2 ∈ tables_1 ∧ Cond.privateMethod q.1 ∈ tables_1 ∧ Cond.instanceMethod q.1 ∈ tables_1
theorem lw_p0 : lw_okq (⟨"ThievesPaid$Reader", "takes", "(I)Z"⟩, 6) := ⟨⟨by decide +kernel, by decide +kernel⟩, List.mem_of_getElem? (i := 40) (by decide +kernel), List.mem_of_getElem? (i := 208) (by decide +kernel), List.mem_of_getElem? (i := 209) (by decide +kernel)⟩
theorem lw_p1 : lw_okq (⟨"ThievesPaid$Reader", "takesStart", "(I)Z"⟩, 6) := ⟨⟨by decide +kernel, by decide +kernel⟩, List.mem_of_getElem? (i := 40) (by decide +kernel), List.mem_of_getElem? (i := 212) (by decide +kernel), List.mem_of_getElem? (i := 213) (by decide +kernel)⟩
theorem lw_p2 : lw_okq (⟨"ThievesPaid$Reader", "takesPayer", "(I)Z"⟩, 6) := ⟨⟨by decide +kernel, by decide +kernel⟩, List.mem_of_getElem? (i := 40) (by decide +kernel), List.mem_of_getElem? (i := 219) (by decide +kernel), List.mem_of_getElem? (i := 220) (by decide +kernel)⟩
theorem lw_p3 : lw_okq (⟨"ThievesPaid$Reader", "takesRobbed", "(I)Z"⟩, 6) := ⟨⟨by decide +kernel, by decide +kernel⟩, List.mem_of_getElem? (i := 40) (by decide +kernel), List.mem_of_getElem? (i := 226) (by decide +kernel), List.mem_of_getElem? (i := 227) (by decide +kernel)⟩
theorem lw_p4 : lw_okq (⟨"ThievesPaid$Reader", "takesFee", "(I)Z"⟩, 6) := ⟨⟨by decide +kernel, by decide +kernel⟩, List.mem_of_getElem? (i := 40) (by decide +kernel), List.mem_of_getElem? (i := 230) (by decide +kernel), List.mem_of_getElem? (i := 231) (by decide +kernel)⟩
theorem lw_p5 : lw_okq (⟨"ThievesPaid$Reader", "takesComma", "(I)Z"⟩, 6) := ⟨⟨by decide +kernel, by decide +kernel⟩, List.mem_of_getElem? (i := 40) (by decide +kernel), List.mem_of_getElem? (i := 234) (by decide +kernel), List.mem_of_getElem? (i := 235) (by decide +kernel)⟩
theorem lw_p6 : lw_okq (⟨"ThievesPaid", "isThief", "(I)Z"⟩, 18) := ⟨⟨by decide +kernel, by decide +kernel⟩, List.mem_of_getElem? (i := 14) (by decide +kernel), List.mem_of_getElem? (i := 293) (by decide +kernel), List.mem_of_getElem? (i := 294) (by decide +kernel)⟩
theorem lw_p7 : lw_okq (⟨"ThievesPaid", "isSpoon", "(I)Z"⟩, 18) := ⟨⟨by decide +kernel, by decide +kernel⟩, List.mem_of_getElem? (i := 14) (by decide +kernel), List.mem_of_getElem? (i := 349) (by decide +kernel), List.mem_of_getElem? (i := 350) (by decide +kernel)⟩
theorem lw_p8 : lw_okq (⟨"ThievesPaid", "worthIn", "(LThievesPaid$City;I)I"⟩, 18) := ⟨⟨by decide +kernel, by decide +kernel⟩, List.mem_of_getElem? (i := 14) (by decide +kernel), List.mem_of_getElem? (i := 357) (by decide +kernel), List.mem_of_getElem? (i := 358) (by decide +kernel)⟩
theorem lw_p9 : lw_okq (⟨"ThievesPaid", "monthWithout", "(LThievesPaid$City;I)I"⟩, 18) := ⟨⟨by decide +kernel, by decide +kernel⟩, List.mem_of_getElem? (i := 14) (by decide +kernel), List.mem_of_getElem? (i := 365) (by decide +kernel), List.mem_of_getElem? (i := 366) (by decide +kernel)⟩
theorem lw_p10 : lw_okq (⟨"ThievesPaid", "visit", "(LThievesPaid$City;I)I"⟩, 18) := ⟨⟨by decide +kernel, by decide +kernel⟩, List.mem_of_getElem? (i := 14) (by decide +kernel), List.mem_of_getElem? (i := 369) (by decide +kernel), List.mem_of_getElem? (i := 370) (by decide +kernel)⟩
theorem lw_p11 : lw_okq (⟨"ThievesPaid", "picked", "(LThievesPaid$City;LThievesPaid$Thief;I)I"⟩, 18) := ⟨⟨by decide +kernel, by decide +kernel⟩, List.mem_of_getElem? (i := 14) (by decide +kernel), List.mem_of_getElem? (i := 406) (by decide +kernel), List.mem_of_getElem? (i := 407) (by decide +kernel)⟩
theorem lw_p12 : lw_okq (⟨"ThievesPaid", "spreadOdds", "(II)J"⟩, 18) := ⟨⟨by decide +kernel, by decide +kernel⟩, List.mem_of_getElem? (i := 14) (by decide +kernel), List.mem_of_getElem? (i := 443) (by decide +kernel), List.mem_of_getElem? (i := 444) (by decide +kernel)⟩
theorem lw_p13 : lw_okq (⟨"ThievesPaid", "spreadBy", "(I)V"⟩, 18) := ⟨⟨by decide +kernel, by decide +kernel⟩, List.mem_of_getElem? (i := 14) (by decide +kernel), List.mem_of_getElem? (i := 447) (by decide +kernel), List.mem_of_getElem? (i := 448) (by decide +kernel)⟩
theorem lw_p14 : lw_okq (⟨"ThievesPaid", "bestSet", "(II)I"⟩, 18) := ⟨⟨by decide +kernel, by decide +kernel⟩, List.mem_of_getElem? (i := 14) (by decide +kernel), List.mem_of_getElem? (i := 462) (by decide +kernel), List.mem_of_getElem? (i := 463) (by decide +kernel)⟩
theorem lw_p15 : lw_okq (⟨"ThievesPaid", "couldBePaidBy", "(I)I"⟩, 18) := ⟨⟨by decide +kernel, by decide +kernel⟩, List.mem_of_getElem? (i := 14) (by decide +kernel), List.mem_of_getElem? (i := 466) (by decide +kernel), List.mem_of_getElem? (i := 467) (by decide +kernel)⟩
def lw_privs_1 : List (MethodName × Nat) := [(⟨"ThievesPaid$Reader", "takes", "(I)Z"⟩, 6), (⟨"ThievesPaid$Reader", "takesStart", "(I)Z"⟩, 6), (⟨"ThievesPaid$Reader", "takesPayer", "(I)Z"⟩, 6), (⟨"ThievesPaid$Reader", "takesRobbed", "(I)Z"⟩, 6), (⟨"ThievesPaid$Reader", "takesFee", "(I)Z"⟩, 6), (⟨"ThievesPaid$Reader", "takesComma", "(I)Z"⟩, 6), (⟨"ThievesPaid", "isThief", "(I)Z"⟩, 18), (⟨"ThievesPaid", "isSpoon", "(I)Z"⟩, 18), (⟨"ThievesPaid", "worthIn", "(LThievesPaid$City;I)I"⟩, 18), (⟨"ThievesPaid", "monthWithout", "(LThievesPaid$City;I)I"⟩, 18), (⟨"ThievesPaid", "visit", "(LThievesPaid$City;I)I"⟩, 18), (⟨"ThievesPaid", "picked", "(LThievesPaid$City;LThievesPaid$Thief;I)I"⟩, 18), (⟨"ThievesPaid", "spreadOdds", "(II)J"⟩, 18), (⟨"ThievesPaid", "spreadBy", "(I)V"⟩, 18), (⟨"ThievesPaid", "bestSet", "(II)I"⟩, 18), (⟨"ThievesPaid", "couldBePaidBy", "(I)I"⟩, 18)]
theorem lw_r1 : ∀ q ∈ lw_privs_1, lw_okq q := List.forall_mem_cons.mpr ⟨lw_p0, List.forall_mem_cons.mpr ⟨lw_p1, List.forall_mem_cons.mpr ⟨lw_p2, List.forall_mem_cons.mpr ⟨lw_p3, List.forall_mem_cons.mpr ⟨lw_p4, List.forall_mem_cons.mpr ⟨lw_p5, List.forall_mem_cons.mpr ⟨lw_p6, List.forall_mem_cons.mpr ⟨lw_p7, List.forall_mem_cons.mpr ⟨lw_p8, List.forall_mem_cons.mpr ⟨lw_p9, List.forall_mem_cons.mpr ⟨lw_p10, List.forall_mem_cons.mpr ⟨lw_p11, List.forall_mem_cons.mpr ⟨lw_p12, List.forall_mem_cons.mpr ⟨lw_p13, List.forall_mem_cons.mpr ⟨lw_p14, List.forall_mem_cons.mpr ⟨lw_p15, fun _ h => absurd h List.not_mem_nil⟩⟩⟩⟩⟩⟩⟩⟩⟩⟩⟩⟩⟩⟩⟩⟩
theorem lw_p16 : lw_okq (⟨"ThievesPaid", "leftBy", "(III)I"⟩, 18) := ⟨⟨by decide +kernel, by decide +kernel⟩, List.mem_of_getElem? (i := 14) (by decide +kernel), List.mem_of_getElem? (i := 470) (by decide +kernel), List.mem_of_getElem? (i := 471) (by decide +kernel)⟩
theorem lw_p17 : lw_okq (⟨"ThievesPaid", "wouldBeAsSeen", "(I)Z"⟩, 18) := ⟨⟨by decide +kernel, by decide +kernel⟩, List.mem_of_getElem? (i := 14) (by decide +kernel), List.mem_of_getElem? (i := 492) (by decide +kernel), List.mem_of_getElem? (i := 493) (by decide +kernel)⟩
theorem lw_p18 : lw_okq (⟨"ThievesPaid", "netAll", "()V"⟩, 18) := ⟨⟨by decide +kernel, by decide +kernel⟩, List.mem_of_getElem? (i := 14) (by decide +kernel), List.mem_of_getElem? (i := 504) (by decide +kernel), List.mem_of_getElem? (i := 505) (by decide +kernel)⟩
theorem lw_p19 : lw_okq (⟨"ThievesPaid", "mostGroupsWithOneLess", "(I)I"⟩, 18) := ⟨⟨by decide +kernel, by decide +kernel⟩, List.mem_of_getElem? (i := 14) (by decide +kernel), List.mem_of_getElem? (i := 512) (by decide +kernel), List.mem_of_getElem? (i := 513) (by decide +kernel)⟩
theorem lw_p20 : lw_okq (⟨"ThievesPaid", "worthAtHome", "(LThievesPaid$City;)I"⟩, 18) := ⟨⟨by decide +kernel, by decide +kernel⟩, List.mem_of_getElem? (i := 14) (by decide +kernel), List.mem_of_getElem? (i := 531) (by decide +kernel), List.mem_of_getElem? (i := 532) (by decide +kernel)⟩
theorem lw_p21 : lw_okq (⟨"ThievesPaid", "spoonsAway", "()I"⟩, 18) := ⟨⟨by decide +kernel, by decide +kernel⟩, List.mem_of_getElem? (i := 14) (by decide +kernel), List.mem_of_getElem? (i := 547) (by decide +kernel), List.mem_of_getElem? (i := 548) (by decide +kernel)⟩
theorem lw_p22 : lw_okq (⟨"ThievesPaid", "withThieves", "(J)J"⟩, 18) := ⟨⟨by decide +kernel, by decide +kernel⟩, List.mem_of_getElem? (i := 14) (by decide +kernel), List.mem_of_getElem? (i := 556) (by decide +kernel), List.mem_of_getElem? (i := 557) (by decide +kernel)⟩
theorem lw_p23 : lw_okq (⟨"ThievesPaid", "withHouses", "(J)J"⟩, 18) := ⟨⟨by decide +kernel, by decide +kernel⟩, List.mem_of_getElem? (i := 14) (by decide +kernel), List.mem_of_getElem? (i := 565) (by decide +kernel), List.mem_of_getElem? (i := 566) (by decide +kernel)⟩
theorem lw_p24 : lw_okq (⟨"ThievesPaid", "withSpoons", "(J)J"⟩, 18) := ⟨⟨by decide +kernel, by decide +kernel⟩, List.mem_of_getElem? (i := 14) (by decide +kernel), List.mem_of_getElem? (i := 569) (by decide +kernel), List.mem_of_getElem? (i := 570) (by decide +kernel)⟩
theorem lw_p25 : lw_okq (⟨"ThievesPaid", "withOutlook", "(J)J"⟩, 18) := ⟨⟨by decide +kernel, by decide +kernel⟩, List.mem_of_getElem? (i := 14) (by decide +kernel), List.mem_of_getElem? (i := 575) (by decide +kernel), List.mem_of_getElem? (i := 576) (by decide +kernel)⟩
theorem lw_p26 : lw_okq (⟨"ThievesPaidModel", "faultOf", "()I"⟩, 32) := ⟨⟨by decide +kernel, by decide +kernel⟩, List.mem_of_getElem? (i := 582) (by decide +kernel), List.mem_of_getElem? (i := 698) (by decide +kernel), List.mem_of_getElem? (i := 699) (by decide +kernel)⟩
theorem lw_p27 : lw_okq (⟨"ThievesPaidModel", "go", "(I)Z"⟩, 32) := ⟨⟨by decide +kernel, by decide +kernel⟩, List.mem_of_getElem? (i := 582) (by decide +kernel), List.mem_of_getElem? (i := 702) (by decide +kernel), List.mem_of_getElem? (i := 703) (by decide +kernel)⟩
theorem lw_p28 : lw_okq (⟨"ThievesPaidModel", "goDigit", "(I)Z"⟩, 32) := ⟨⟨by decide +kernel, by decide +kernel⟩, List.mem_of_getElem? (i := 582) (by decide +kernel), List.mem_of_getElem? (i := 709) (by decide +kernel), List.mem_of_getElem? (i := 710) (by decide +kernel)⟩
theorem lw_p29 : lw_okq (⟨"ThievesPaidModel", "isThief", "(I)Z"⟩, 32) := ⟨⟨by decide +kernel, by decide +kernel⟩, List.mem_of_getElem? (i := 582) (by decide +kernel), List.mem_of_getElem? (i := 726) (by decide +kernel), List.mem_of_getElem? (i := 727) (by decide +kernel)⟩
theorem lw_p30 : lw_okq (⟨"ThievesPaidModel", "tell", "(II)I"⟩, 32) := ⟨⟨by decide +kernel, by decide +kernel⟩, List.mem_of_getElem? (i := 582) (by decide +kernel), List.mem_of_getElem? (i := 730) (by decide +kernel), List.mem_of_getElem? (i := 731) (by decide +kernel)⟩
theorem lw_p31 : lw_okq (⟨"ThievesPaidModel", "isSpoon", "(I)Z"⟩, 32) := ⟨⟨by decide +kernel, by decide +kernel⟩, List.mem_of_getElem? (i := 582) (by decide +kernel), List.mem_of_getElem? (i := 769) (by decide +kernel), List.mem_of_getElem? (i := 770) (by decide +kernel)⟩
def lw_privs_2 : List (MethodName × Nat) := [(⟨"ThievesPaid", "leftBy", "(III)I"⟩, 18), (⟨"ThievesPaid", "wouldBeAsSeen", "(I)Z"⟩, 18), (⟨"ThievesPaid", "netAll", "()V"⟩, 18), (⟨"ThievesPaid", "mostGroupsWithOneLess", "(I)I"⟩, 18), (⟨"ThievesPaid", "worthAtHome", "(LThievesPaid$City;)I"⟩, 18), (⟨"ThievesPaid", "spoonsAway", "()I"⟩, 18), (⟨"ThievesPaid", "withThieves", "(J)J"⟩, 18), (⟨"ThievesPaid", "withHouses", "(J)J"⟩, 18), (⟨"ThievesPaid", "withSpoons", "(J)J"⟩, 18), (⟨"ThievesPaid", "withOutlook", "(J)J"⟩, 18), (⟨"ThievesPaidModel", "faultOf", "()I"⟩, 32), (⟨"ThievesPaidModel", "go", "(I)Z"⟩, 32), (⟨"ThievesPaidModel", "goDigit", "(I)Z"⟩, 32), (⟨"ThievesPaidModel", "isThief", "(I)Z"⟩, 32), (⟨"ThievesPaidModel", "tell", "(II)I"⟩, 32), (⟨"ThievesPaidModel", "isSpoon", "(I)Z"⟩, 32)]
theorem lw_r2 : ∀ q ∈ lw_privs_2, lw_okq q := List.forall_mem_cons.mpr ⟨lw_p16, List.forall_mem_cons.mpr ⟨lw_p17, List.forall_mem_cons.mpr ⟨lw_p18, List.forall_mem_cons.mpr ⟨lw_p19, List.forall_mem_cons.mpr ⟨lw_p20, List.forall_mem_cons.mpr ⟨lw_p21, List.forall_mem_cons.mpr ⟨lw_p22, List.forall_mem_cons.mpr ⟨lw_p23, List.forall_mem_cons.mpr ⟨lw_p24, List.forall_mem_cons.mpr ⟨lw_p25, List.forall_mem_cons.mpr ⟨lw_p26, List.forall_mem_cons.mpr ⟨lw_p27, List.forall_mem_cons.mpr ⟨lw_p28, List.forall_mem_cons.mpr ⟨lw_p29, List.forall_mem_cons.mpr ⟨lw_p30, List.forall_mem_cons.mpr ⟨lw_p31, fun _ h => absurd h List.not_mem_nil⟩⟩⟩⟩⟩⟩⟩⟩⟩⟩⟩⟩⟩⟩⟩⟩
theorem lw_p32 : lw_okq (⟨"ThievesPaidModel", "worthOf", "(I)I"⟩, 32) := ⟨⟨by decide +kernel, by decide +kernel⟩, List.mem_of_getElem? (i := 582) (by decide +kernel), List.mem_of_getElem? (i := 777) (by decide +kernel), List.mem_of_getElem? (i := 778) (by decide +kernel)⟩
theorem lw_p33 : lw_okq (⟨"ThievesPaidModel", "lacks", "()Z"⟩, 32) := ⟨⟨by decide +kernel, by decide +kernel⟩, List.mem_of_getElem? (i := 582) (by decide +kernel), List.mem_of_getElem? (i := 785) (by decide +kernel), List.mem_of_getElem? (i := 786) (by decide +kernel)⟩
theorem lw_p34 : lw_okq (⟨"ThievesPaidModel", "begin", "()V"⟩, 32) := ⟨⟨by decide +kernel, by decide +kernel⟩, List.mem_of_getElem? (i := 582) (by decide +kernel), List.mem_of_getElem? (i := 789) (by decide +kernel), List.mem_of_getElem? (i := 790) (by decide +kernel)⟩
theorem lw_p35 : lw_okq (⟨"ThievesPaidModel", "pass", "(II)I"⟩, 32) := ⟨⟨by decide +kernel, by decide +kernel⟩, List.mem_of_getElem? (i := 582) (by decide +kernel), List.mem_of_getElem? (i := 793) (by decide +kernel), List.mem_of_getElem? (i := 794) (by decide +kernel)⟩
theorem lw_p36 : lw_okq (⟨"ThievesPaidModel", "visit", "(II)I"⟩, 32) := ⟨⟨by decide +kernel, by decide +kernel⟩, List.mem_of_getElem? (i := 582) (by decide +kernel), List.mem_of_getElem? (i := 797) (by decide +kernel), List.mem_of_getElem? (i := 798) (by decide +kernel)⟩
theorem lw_p37 : lw_okq (⟨"ThievesPaidModel", "fromOf", "(II)I"⟩, 32) := ⟨⟨by decide +kernel, by decide +kernel⟩, List.mem_of_getElem? (i := 582) (by decide +kernel), List.mem_of_getElem? (i := 801) (by decide +kernel), List.mem_of_getElem? (i := 802) (by decide +kernel)⟩
theorem lw_p38 : lw_okq (⟨"ThievesPaidModel", "mayTake", "(II)Z"⟩, 32) := ⟨⟨by decide +kernel, by decide +kernel⟩, List.mem_of_getElem? (i := 582) (by decide +kernel), List.mem_of_getElem? (i := 805) (by decide +kernel), List.mem_of_getElem? (i := 806) (by decide +kernel)⟩
theorem lw_p39 : lw_okq (⟨"ThievesPaidModel", "pick", "(IZ)I"⟩, 32) := ⟨⟨by decide +kernel, by decide +kernel⟩, List.mem_of_getElem? (i := 582) (by decide +kernel), List.mem_of_getElem? (i := 809) (by decide +kernel), List.mem_of_getElem? (i := 810) (by decide +kernel)⟩
theorem lw_p40 : lw_okq (⟨"ThievesPaidModel", "toOf", "(II)I"⟩, 32) := ⟨⟨by decide +kernel, by decide +kernel⟩, List.mem_of_getElem? (i := 582) (by decide +kernel), List.mem_of_getElem? (i := 813) (by decide +kernel), List.mem_of_getElem? (i := 814) (by decide +kernel)⟩
theorem lw_p41 : lw_okq (⟨"ThievesPaidModel", "whomOf", "(III)I"⟩, 32) := ⟨⟨by decide +kernel, by decide +kernel⟩, List.mem_of_getElem? (i := 582) (by decide +kernel), List.mem_of_getElem? (i := 841) (by decide +kernel), List.mem_of_getElem? (i := 842) (by decide +kernel)⟩
theorem lw_p42 : lw_okq (⟨"ThievesPaidModel", "inHouse", "(I)I"⟩, 32) := ⟨⟨by decide +kernel, by decide +kernel⟩, List.mem_of_getElem? (i := 582) (by decide +kernel), List.mem_of_getElem? (i := 846) (by decide +kernel), List.mem_of_getElem? (i := 847) (by decide +kernel)⟩
theorem lw_p43 : lw_okq (⟨"ThievesPaidModel", "stillOf", "()I"⟩, 32) := ⟨⟨by decide +kernel, by decide +kernel⟩, List.mem_of_getElem? (i := 582) (by decide +kernel), List.mem_of_getElem? (i := 857) (by decide +kernel), List.mem_of_getElem? (i := 858) (by decide +kernel)⟩
theorem lw_p44 : lw_okq (⟨"ThievesPaidModel", "whoOf", "()I"⟩, 32) := ⟨⟨by decide +kernel, by decide +kernel⟩, List.mem_of_getElem? (i := 582) (by decide +kernel), List.mem_of_getElem? (i := 869) (by decide +kernel), List.mem_of_getElem? (i := 870) (by decide +kernel)⟩
theorem lw_p45 : lw_okq (⟨"ThievesPaidModel", "isSeenSo", "(I)Z"⟩, 32) := ⟨⟨by decide +kernel, by decide +kernel⟩, List.mem_of_getElem? (i := 582) (by decide +kernel), List.mem_of_getElem? (i := 873) (by decide +kernel), List.mem_of_getElem? (i := 874) (by decide +kernel)⟩
theorem lw_p46 : lw_okq (⟨"ThievesPaidModel", "owesOf", "(II)I"⟩, 32) := ⟨⟨by decide +kernel, by decide +kernel⟩, List.mem_of_getElem? (i := 582) (by decide +kernel), List.mem_of_getElem? (i := 881) (by decide +kernel), List.mem_of_getElem? (i := 882) (by decide +kernel)⟩
theorem lw_p47 : lw_okq (⟨"ThievesPaidModel", "fewestOf", "()I"⟩, 32) := ⟨⟨by decide +kernel, by decide +kernel⟩, List.mem_of_getElem? (i := 582) (by decide +kernel), List.mem_of_getElem? (i := 889) (by decide +kernel), List.mem_of_getElem? (i := 890) (by decide +kernel)⟩
def lw_privs_3 : List (MethodName × Nat) := [(⟨"ThievesPaidModel", "worthOf", "(I)I"⟩, 32), (⟨"ThievesPaidModel", "lacks", "()Z"⟩, 32), (⟨"ThievesPaidModel", "begin", "()V"⟩, 32), (⟨"ThievesPaidModel", "pass", "(II)I"⟩, 32), (⟨"ThievesPaidModel", "visit", "(II)I"⟩, 32), (⟨"ThievesPaidModel", "fromOf", "(II)I"⟩, 32), (⟨"ThievesPaidModel", "mayTake", "(II)Z"⟩, 32), (⟨"ThievesPaidModel", "pick", "(IZ)I"⟩, 32), (⟨"ThievesPaidModel", "toOf", "(II)I"⟩, 32), (⟨"ThievesPaidModel", "whomOf", "(III)I"⟩, 32), (⟨"ThievesPaidModel", "inHouse", "(I)I"⟩, 32), (⟨"ThievesPaidModel", "stillOf", "()I"⟩, 32), (⟨"ThievesPaidModel", "whoOf", "()I"⟩, 32), (⟨"ThievesPaidModel", "isSeenSo", "(I)Z"⟩, 32), (⟨"ThievesPaidModel", "owesOf", "(II)I"⟩, 32), (⟨"ThievesPaidModel", "fewestOf", "()I"⟩, 32)]
theorem lw_r3 : ∀ q ∈ lw_privs_3, lw_okq q := List.forall_mem_cons.mpr ⟨lw_p32, List.forall_mem_cons.mpr ⟨lw_p33, List.forall_mem_cons.mpr ⟨lw_p34, List.forall_mem_cons.mpr ⟨lw_p35, List.forall_mem_cons.mpr ⟨lw_p36, List.forall_mem_cons.mpr ⟨lw_p37, List.forall_mem_cons.mpr ⟨lw_p38, List.forall_mem_cons.mpr ⟨lw_p39, List.forall_mem_cons.mpr ⟨lw_p40, List.forall_mem_cons.mpr ⟨lw_p41, List.forall_mem_cons.mpr ⟨lw_p42, List.forall_mem_cons.mpr ⟨lw_p43, List.forall_mem_cons.mpr ⟨lw_p44, List.forall_mem_cons.mpr ⟨lw_p45, List.forall_mem_cons.mpr ⟨lw_p46, List.forall_mem_cons.mpr ⟨lw_p47, fun _ h => absurd h List.not_mem_nil⟩⟩⟩⟩⟩⟩⟩⟩⟩⟩⟩⟩⟩⟩⟩⟩
theorem lw_p48 : lw_okq (⟨"ThievesPaidModel", "balance", "(I)I"⟩, 32) := ⟨⟨by decide +kernel, by decide +kernel⟩, List.mem_of_getElem? (i := 582) (by decide +kernel), List.mem_of_getElem? (i := 893) (by decide +kernel), List.mem_of_getElem? (i := 894) (by decide +kernel)⟩
theorem lw_p49 : lw_okq (⟨"ThievesPaidModel", "draw", "(I)I"⟩, 32) := ⟨⟨by decide +kernel, by decide +kernel⟩, List.mem_of_getElem? (i := 582) (by decide +kernel), List.mem_of_getElem? (i := 901) (by decide +kernel), List.mem_of_getElem? (i := 902) (by decide +kernel)⟩
theorem lw_p50 : lw_okq (⟨"ThievesPaidModel", "countOf", "(I)I"⟩, 32) := ⟨⟨by decide +kernel, by decide +kernel⟩, List.mem_of_getElem? (i := 582) (by decide +kernel), List.mem_of_getElem? (i := 924) (by decide +kernel), List.mem_of_getElem? (i := 925) (by decide +kernel)⟩
theorem lw_p51 : lw_okq (⟨"ThievesPaidModel", "say", "(J)V"⟩, 32) := ⟨⟨by decide +kernel, by decide +kernel⟩, List.mem_of_getElem? (i := 582) (by decide +kernel), List.mem_of_getElem? (i := 933) (by decide +kernel), List.mem_of_getElem? (i := 934) (by decide +kernel)⟩
def lw_privs_4 : List (MethodName × Nat) := [(⟨"ThievesPaidModel", "balance", "(I)I"⟩, 32), (⟨"ThievesPaidModel", "draw", "(I)I"⟩, 32), (⟨"ThievesPaidModel", "countOf", "(I)I"⟩, 32), (⟨"ThievesPaidModel", "say", "(J)V"⟩, 32)]
theorem lw_r4 : ∀ q ∈ lw_privs_4, lw_okq q := List.forall_mem_cons.mpr ⟨lw_p48, List.forall_mem_cons.mpr ⟨lw_p49, List.forall_mem_cons.mpr ⟨lw_p50, List.forall_mem_cons.mpr ⟨lw_p51, fun _ h => absurd h List.not_mem_nil⟩⟩⟩⟩
def lw_privs : List (MethodName × Nat) := lw_privs_1 ++ (lw_privs_2 ++ (lw_privs_3 ++ (lw_privs_4)))
def lw_tbl : List Cond := k2_sels lw_privs ++ tables_1
theorem lw_privs_ok : ∀ q ∈ lw_privs, lw_okq q := by
  show ∀ q ∈ lw_privs_1 ++ (lw_privs_2 ++ (lw_privs_3 ++ (lw_privs_4))), lw_okq q
  exact List.forall_mem_append.mpr ⟨lw_r1, List.forall_mem_append.mpr ⟨lw_r2, List.forall_mem_append.mpr ⟨lw_r3, lw_r4⟩⟩⟩
end
section
def RX0 : String := "ThievesPaid$Brother"
def TX0 : u_T := fun k => match k with
  | 0 => ("ThievesPaid$Thief", "payer", "I", true)
  | 1 => ("ThievesPaid$Thief", "robbed", "I", true)
  | _ => ("ThievesPaid$Thief", "fee", "I", true)
def tyX0 : Nat → FieldType := fun k => match k with
  | 0 => .int
  | 1 => .int
  | _ => .int
abbrev wsX00 : List Cond := u_ws RX0 TX0 3
theorem nmX0 : ∀ a, a < 3 → ∀ b, b < 3 → a ≠ b → (TX0 a).2.1 ≠ (TX0 b).2.1 := by decide +kernel
theorem tyX0_ok : ∀ k, k < 3 → parseFieldDescriptor (TX0 k).2.2.1 = some (tyX0 k) := by decide +kernel
abbrev cX0_init : ByteArray := prog_2_method_1_code
def yX0_init : MethodName := ⟨RX0, "<init>", "(III)V"⟩
abbrev cX0_kind : ByteArray := prog_2_method_2_code
def yX0_kind : MethodName := ⟨RX0, "kind", "()I"⟩
abbrev cX0_likesBetter : ByteArray := prog_2_method_3_code
def yX0_likesBetter : MethodName := ⟨RX0, "likesBetter", "(II)Z"⟩
def RX1 : String := "ThievesPaid$City"
def TX1 : u_T := fun k => match k with
  | 0 => ("ThievesPaid$City", "at", "[I", true)
  | 1 => ("ThievesPaid$City", "seenAt", "[I", true)
  | 2 => ("ThievesPaid$City", "locks", "[I", true)
  | 3 => ("ThievesPaid$City", "dogs", "[Z", true)
  | 4 => ("ThievesPaid$City", "isPaid", "[Z", true)
  | 5 => ("ThievesPaid$City", "tenthsOf", "[I", true)
  | 6 => ("ThievesPaid$City", "monthsGone", "I", false)
  | _ => ("ThievesPaid$City", "feesPaid", "I", false)
def tyX1 : Nat → FieldType := fun k => match k with
  | 0 => .array .int
  | 1 => .array .int
  | 2 => .array .int
  | 3 => .array .boolean
  | 4 => .array .boolean
  | 5 => .array .int
  | 6 => .int
  | _ => .int
abbrev wsX10 : List Cond := u_ws RX1 TX1 8
theorem nmX1 : ∀ a, a < 8 → ∀ b, b < 8 → a ≠ b → (TX1 a).2.1 ≠ (TX1 b).2.1 := by decide +kernel
theorem tyX1_ok : ∀ k, k < 8 → parseFieldDescriptor (TX1 k).2.2.1 = some (tyX1 k) := by decide +kernel
abbrev cX1_init : ByteArray := prog_3_method_1_code
def yX1_init : MethodName := ⟨RX1, "<init>", "()V"⟩
abbrev cX1_takeOver : ByteArray := prog_3_method_2_code
def yX1_takeOver : MethodName := ⟨RX1, "takeOver", "(LThievesPaid$City;)V"⟩
abbrev cX1_lapseLocks : ByteArray := prog_3_method_3_code
def yX1_lapseLocks : MethodName := ⟨RX1, "lapseLocks", "()V"⟩
def RX2 : String := "ThievesPaid$Honest"
def TX2 : u_T := fun k => match k with
  | 0 => ("ThievesPaid$Thief", "payer", "I", true)
  | 1 => ("ThievesPaid$Thief", "robbed", "I", true)
  | _ => ("ThievesPaid$Thief", "fee", "I", true)
def tyX2 : Nat → FieldType := fun k => match k with
  | 0 => .int
  | 1 => .int
  | _ => .int
abbrev wsX20 : List Cond := u_ws RX2 TX2 3
theorem nmX2 : ∀ a, a < 3 → ∀ b, b < 3 → a ≠ b → (TX2 a).2.1 ≠ (TX2 b).2.1 := by decide +kernel
theorem tyX2_ok : ∀ k, k < 3 → parseFieldDescriptor (TX2 k).2.2.1 = some (tyX2 k) := by decide +kernel
abbrev cX2_init : ByteArray := prog_4_method_1_code
def yX2_init : MethodName := ⟨RX2, "<init>", "(III)V"⟩
abbrev cX2_kind : ByteArray := prog_4_method_2_code
def yX2_kind : MethodName := ⟨RX2, "kind", "()I"⟩
abbrev cX2_mostTaken : ByteArray := prog_4_method_3_code
def yX2_mostTaken : MethodName := ⟨RX2, "mostTaken", "()I"⟩
def RX3 : String := "ThievesPaid$Master"
def TX3 : u_T := fun k => match k with
  | 0 => ("ThievesPaid$Thief", "payer", "I", true)
  | 1 => ("ThievesPaid$Thief", "robbed", "I", true)
  | _ => ("ThievesPaid$Thief", "fee", "I", true)
def tyX3 : Nat → FieldType := fun k => match k with
  | 0 => .int
  | 1 => .int
  | _ => .int
abbrev wsX30 : List Cond := u_ws RX3 TX3 3
theorem nmX3 : ∀ a, a < 3 → ∀ b, b < 3 → a ≠ b → (TX3 a).2.1 ≠ (TX3 b).2.1 := by decide +kernel
theorem tyX3_ok : ∀ k, k < 3 → parseFieldDescriptor (TX3 k).2.2.1 = some (tyX3 k) := by decide +kernel
abbrev cX3_init : ByteArray := prog_5_method_1_code
def yX3_init : MethodName := ⟨RX3, "<init>", "(III)V"⟩
abbrev cX3_kind : ByteArray := prog_5_method_2_code
def yX3_kind : MethodName := ⟨RX3, "kind", "()I"⟩
abbrev cX3_isKeptOut : ByteArray := prog_5_method_3_code
def yX3_isKeptOut : MethodName := ⟨RX3, "isKeptOut", "(ZI)Z"⟩
def RX4 : String := "ThievesPaid$Page"
def TX4 : u_T := fun k => match k with
  | 0 => ("ThievesPaid$Page", "codes", "[I", true)
  | _ => ("ThievesPaid$Page", "size", "I", false)
def tyX4 : Nat → FieldType := fun k => match k with
  | 0 => .array .int
  | _ => .int
abbrev wsX40 : List Cond := u_ws RX4 TX4 2
theorem nmX4 : ∀ a, a < 2 → ∀ b, b < 2 → a ≠ b → (TX4 a).2.1 ≠ (TX4 b).2.1 := by decide +kernel
theorem tyX4_ok : ∀ k, k < 2 → parseFieldDescriptor (TX4 k).2.2.1 = some (tyX4 k) := by decide +kernel
abbrev cX4_init : ByteArray := prog_6_method_1_code
def yX4_init : MethodName := ⟨RX4, "<init>", "()V"⟩
def RX5 : String := "ThievesPaid$Reader"
def TX5 : u_T := fun k => match k with
  | 0 => ("ThievesPaid$Reader", "kinds", "[I", true)
  | 1 => ("ThievesPaid$Reader", "payers", "[I", true)
  | 2 => ("ThievesPaid$Reader", "robbed", "[I", true)
  | 3 => ("ThievesPaid$Reader", "fees", "[I", true)
  | 4 => ("ThievesPaid$Reader", "read", "I", false)
  | _ => ("ThievesPaid$Reader", "stage", "I", false)
def tyX5 : Nat → FieldType := fun k => match k with
  | 0 => .array .int
  | 1 => .array .int
  | 2 => .array .int
  | 3 => .array .int
  | 4 => .int
  | _ => .int
abbrev wsX50 : List Cond := u_ws RX5 TX5 6
theorem nmX5 : ∀ a, a < 6 → ∀ b, b < 6 → a ≠ b → (TX5 a).2.1 ≠ (TX5 b).2.1 := by decide +kernel
theorem tyX5_ok : ∀ k, k < 6 → parseFieldDescriptor (TX5 k).2.2.1 = some (tyX5 k) := by decide +kernel
abbrev cX5_init : ByteArray := prog_7_method_1_code
def yX5_init : MethodName := ⟨RX5, "<init>", "()V"⟩
abbrev cX5_readAhead : ByteArray := prog_7_method_2_code
def yX5_readAhead : MethodName := ⟨RX5, "readAhead", "(LThievesPaid$Page;)I"⟩
abbrev cX5_isAtEnd : ByteArray := prog_7_method_3_code
def yX5_isAtEnd : MethodName := ⟨RX5, "isAtEnd", "()Z"⟩
abbrev cX5_takes : ByteArray := prog_7_method_4_code
def yX5_takes : MethodName := ⟨RX5, "takes", "(I)Z"⟩
abbrev cX5_takesStart : ByteArray := prog_7_method_5_code
def yX5_takesStart : MethodName := ⟨RX5, "takesStart", "(I)Z"⟩
abbrev cX5_takesPayer : ByteArray := prog_7_method_6_code
def yX5_takesPayer : MethodName := ⟨RX5, "takesPayer", "(I)Z"⟩
abbrev cX5_takesRobbed : ByteArray := prog_7_method_7_code
def yX5_takesRobbed : MethodName := ⟨RX5, "takesRobbed", "(I)Z"⟩
abbrev cX5_takesFee : ByteArray := prog_7_method_8_code
def yX5_takesFee : MethodName := ⟨RX5, "takesFee", "(I)Z"⟩
abbrev cX5_takesComma : ByteArray := prog_7_method_9_code
def yX5_takesComma : MethodName := ⟨RX5, "takesComma", "(I)Z"⟩
abbrev cX5_kindOf : ByteArray := prog_7_method_10_code
def yX5_kindOf : MethodName := ⟨RX5, "kindOf", "(I)I"⟩
def RX6 : String := "ThievesPaid$Skilled"
def TX6 : u_T := fun k => match k with
  | 0 => ("ThievesPaid$Thief", "payer", "I", true)
  | 1 => ("ThievesPaid$Thief", "robbed", "I", true)
  | _ => ("ThievesPaid$Thief", "fee", "I", true)
def tyX6 : Nat → FieldType := fun k => match k with
  | 0 => .int
  | 1 => .int
  | _ => .int
abbrev wsX60 : List Cond := u_ws RX6 TX6 3
theorem nmX6 : ∀ a, a < 3 → ∀ b, b < 3 → a ≠ b → (TX6 a).2.1 ≠ (TX6 b).2.1 := by decide +kernel
theorem tyX6_ok : ∀ k, k < 3 → parseFieldDescriptor (TX6 k).2.2.1 = some (tyX6 k) := by decide +kernel
abbrev cX6_init : ByteArray := prog_8_method_1_code
def yX6_init : MethodName := ⟨RX6, "<init>", "(III)V"⟩
abbrev cX6_kind : ByteArray := prog_8_method_2_code
def yX6_kind : MethodName := ⟨RX6, "kind", "()I"⟩
abbrev cX6_mostTaken : ByteArray := prog_8_method_3_code
def yX6_mostTaken : MethodName := ⟨RX6, "mostTaken", "()I"⟩
def RX7 : String := "ThievesPaid$Thief"
def TX7 : u_T := fun k => match k with
  | 0 => ("ThievesPaid$Thief", "payer", "I", true)
  | 1 => ("ThievesPaid$Thief", "robbed", "I", true)
  | _ => ("ThievesPaid$Thief", "fee", "I", true)
def tyX7 : Nat → FieldType := fun k => match k with
  | 0 => .int
  | 1 => .int
  | _ => .int
abbrev wsX70 : List Cond := u_ws RX7 TX7 3
theorem nmX7 : ∀ a, a < 3 → ∀ b, b < 3 → a ≠ b → (TX7 a).2.1 ≠ (TX7 b).2.1 := by decide +kernel
theorem tyX7_ok : ∀ k, k < 3 → parseFieldDescriptor (TX7 k).2.2.1 = some (tyX7 k) := by decide +kernel
abbrev cX7_init : ByteArray := prog_9_method_1_code
def yX7_init : MethodName := ⟨RX7, "<init>", "(III)V"⟩
abbrev cX7_kind : ByteArray := prog_9_method_2_code
def yX7_kind : MethodName := ⟨RX7, "kind", "()I"⟩
abbrev cX7_robs : ByteArray := prog_9_method_3_code
def yX7_robs : MethodName := ⟨RX7, "robs", "(Z)I"⟩
abbrev cX7_isKeptOut : ByteArray := prog_9_method_4_code
def yX7_isKeptOut : MethodName := ⟨RX7, "isKeptOut", "(ZI)Z"⟩
abbrev cX7_mostTaken : ByteArray := prog_9_method_5_code
def yX7_mostTaken : MethodName := ⟨RX7, "mostTaken", "()I"⟩
abbrev cX7_likesBetter : ByteArray := prog_9_method_6_code
def yX7_likesBetter : MethodName := ⟨RX7, "likesBetter", "(II)Z"⟩
def RX8 : String := "ThievesPaid"
def TX8 : u_T := fun k => match k with
  | 0 => ("ThievesPaid", "page", "LThievesPaid$Page;", true)
  | 1 => ("ThievesPaid", "reader", "LThievesPaid$Reader;", true)
  | 2 => ("ThievesPaid", "thieves", "[LThievesPaid$Thief;", true)
  | 3 => ("ThievesPaid", "worths", "[I", true)
  | 4 => ("ThievesPaid", "owners", "[I", true)
  | 5 => ("ThievesPaid", "now", "LThievesPaid$City;", true)
  | 6 => ("ThievesPaid", "kept", "LThievesPaid$City;", true)
  | 7 => ("ThievesPaid", "tried", "LThievesPaid$City;", true)
  | 8 => ("ThievesPaid", "odds", "[J", true)
  | 9 => ("ThievesPaid", "nets", "[I", true)
  | 10 => ("ThievesPaid", "netSums", "[I", true)
  | 11 => ("ThievesPaid", "mostGroups", "[I", true)
  | 12 => ("ThievesPaid", "thiefCount", "I", false)
  | 13 => ("ThievesPaid", "spoonCount", "I", false)
  | 14 => ("ThievesPaid", "timesRead", "I", false)
  | 15 => ("ThievesPaid", "hasImage", "Z", false)
  | 16 => ("ThievesPaid", "imageTimesRead", "I", false)
  | _ => ("ThievesPaid", "imageSpoonCount", "I", false)
def tyX8 : Nat → FieldType := fun k => match k with
  | 0 => .object "ThievesPaid$Page"
  | 1 => .object "ThievesPaid$Reader"
  | 2 => .array (.object "ThievesPaid$Thief")
  | 3 => .array .int
  | 4 => .array .int
  | 5 => .object "ThievesPaid$City"
  | 6 => .object "ThievesPaid$City"
  | 7 => .object "ThievesPaid$City"
  | 8 => .array .long
  | 9 => .array .int
  | 10 => .array .int
  | 11 => .array .int
  | 12 => .int
  | 13 => .int
  | 14 => .int
  | 15 => .boolean
  | 16 => .int
  | _ => .int
abbrev wsX80 : List Cond := u_ws RX8 TX8 18
theorem nmX8 : ∀ a, a < 18 → ∀ b, b < 18 → a ≠ b → (TX8 a).2.1 ≠ (TX8 b).2.1 := by decide +kernel
theorem tyX8_ok : ∀ k, k < 18 → parseFieldDescriptor (TX8 k).2.2.1 = some (tyX8 k) := by decide +kernel
abbrev cX8_init : ByteArray := prog_1_method_1_code
def yX8_init : MethodName := ⟨RX8, "<init>", "()V"⟩
abbrev cX8_letters : ByteArray := prog_1_method_2_code
def yX8_letters : MethodName := ⟨RX8, "letters", "(J)I"⟩
abbrev cX8_blank : ByteArray := prog_1_method_3_code
def yX8_blank : MethodName := ⟨RX8, "blank", "()I"⟩
abbrev cX8_fault : ByteArray := prog_1_method_4_code
def yX8_fault : MethodName := ⟨RX8, "fault", "()I"⟩
abbrev cX8_contracts : ByteArray := prog_1_method_5_code
def yX8_contracts : MethodName := ⟨RX8, "contracts", "()I"⟩
abbrev cX8_about : ByteArray := prog_1_method_6_code
def yX8_about : MethodName := ⟨RX8, "about", "(II)I"⟩
abbrev cX8_as : ByteArray := prog_1_method_7_code
def yX8_as : MethodName := ⟨RX8, "as", "(II)I"⟩
abbrev cX8_paid : ByteArray := prog_1_method_8_code
def yX8_paid : MethodName := ⟨RX8, "paid", "(IZ)I"⟩
abbrev cX8_tenths : ByteArray := prog_1_method_9_code
def yX8_tenths : MethodName := ⟨RX8, "tenths", "(II)I"⟩
abbrev cX8_lock : ByteArray := prog_1_method_10_code
def yX8_lock : MethodName := ⟨RX8, "lock", "(II)I"⟩
abbrev cX8_dog : ByteArray := prog_1_method_11_code
def yX8_dog : MethodName := ⟨RX8, "dog", "(IZ)I"⟩
abbrev cX8_spoon : ByteArray := prog_1_method_12_code
def yX8_spoon : MethodName := ⟨RX8, "spoon", "(II)I"⟩
abbrev cX8_silver : ByteArray := prog_1_method_13_code
def yX8_silver : MethodName := ⟨RX8, "silver", "(II)I"⟩
abbrev cX8_worth : ByteArray := prog_1_method_14_code
def yX8_worth : MethodName := ⟨RX8, "worth", "(I)I"⟩
abbrev cX8_month : ByteArray := prog_1_method_15_code
def yX8_month : MethodName := ⟨RX8, "month", "()I"⟩
abbrev cX8_where : ByteArray := prog_1_method_16_code
def yX8_where : MethodName := ⟨RX8, "where", "(II)I"⟩
abbrev cX8_chance : ByteArray := prog_1_method_17_code
def yX8_chance : MethodName := ⟨RX8, "chance", "(IIII)J"⟩
abbrev cX8_whom : ByteArray := prog_1_method_18_code
def yX8_whom : MethodName := ⟨RX8, "whom", "(III)I"⟩
abbrev cX8_still : ByteArray := prog_1_method_19_code
def yX8_still : MethodName := ⟨RX8, "still", "()I"⟩
abbrev cX8_seen : ByteArray := prog_1_method_20_code
def yX8_seen : MethodName := ⟨RX8, "seen", "(II)I"⟩
abbrev cX8_who : ByteArray := prog_1_method_21_code
def yX8_who : MethodName := ⟨RX8, "who", "()I"⟩
abbrev cX8_owes : ByteArray := prog_1_method_22_code
def yX8_owes : MethodName := ⟨RX8, "owes", "(II)I"⟩
abbrev cX8_fewest : ByteArray := prog_1_method_23_code
def yX8_fewest : MethodName := ⟨RX8, "fewest", "()I"⟩
abbrev cX8_months : ByteArray := prog_1_method_24_code
def yX8_months : MethodName := ⟨RX8, "months", "(III)I"⟩
abbrev cX8_image : ByteArray := prog_1_method_25_code
def yX8_image : MethodName := ⟨RX8, "image", "()I"⟩
abbrev cX8_restore : ByteArray := prog_1_method_26_code
def yX8_restore : MethodName := ⟨RX8, "restore", "()I"⟩
abbrev cX8_count : ByteArray := prog_1_method_27_code
def yX8_count : MethodName := ⟨RX8, "count", "(I)I"⟩
abbrev cX8_digest : ByteArray := prog_1_method_28_code
def yX8_digest : MethodName := ⟨RX8, "digest", "()J"⟩
abbrev cX8_isThief : ByteArray := prog_1_method_29_code
def yX8_isThief : MethodName := ⟨RX8, "isThief", "(I)Z"⟩
abbrev cX8_isSpoon : ByteArray := prog_1_method_30_code
def yX8_isSpoon : MethodName := ⟨RX8, "isSpoon", "(I)Z"⟩
abbrev cX8_isHouse : ByteArray := prog_1_method_31_code
def yX8_isHouse : MethodName := ⟨RX8, "isHouse", "(I)Z"⟩
abbrev cX8_asNumber : ByteArray := prog_1_method_32_code
def yX8_asNumber : MethodName := ⟨RX8, "asNumber", "(Z)I"⟩
abbrev cX8_byteOf : ByteArray := prog_1_method_33_code
def yX8_byteOf : MethodName := ⟨RX8, "byteOf", "(JI)I"⟩
abbrev cX8_lettersTold : ByteArray := prog_1_method_34_code
def yX8_lettersTold : MethodName := ⟨RX8, "lettersTold", "(J)I"⟩
abbrev cX8_hired : ByteArray := prog_1_method_35_code
def yX8_hired : MethodName := ⟨RX8, "hired", "(IIII)LThievesPaid$Thief;"⟩
abbrev cX8_isOfKind : ByteArray := prog_1_method_36_code
def yX8_isOfKind : MethodName := ⟨RX8, "isOfKind", "(LThievesPaid$Thief;I)Z"⟩
abbrev cX8_monthWithout : ByteArray := prog_1_method_37_code
def yX8_monthWithout : MethodName := ⟨RX8, "monthWithout", "(LThievesPaid$City;I)I"⟩
abbrev cX8_visit : ByteArray := prog_1_method_38_code
def yX8_visit : MethodName := ⟨RX8, "visit", "(LThievesPaid$City;I)I"⟩
abbrev cX8_picked : ByteArray := prog_1_method_39_code
def yX8_picked : MethodName := ⟨RX8, "picked", "(LThievesPaid$City;LThievesPaid$Thief;I)I"⟩
abbrev cX8_worthIn : ByteArray := prog_1_method_40_code
def yX8_worthIn : MethodName := ⟨RX8, "worthIn", "(LThievesPaid$City;I)I"⟩
abbrev cX8_worthAtHome : ByteArray := prog_1_method_41_code
def yX8_worthAtHome : MethodName := ⟨RX8, "worthAtHome", "(LThievesPaid$City;)I"⟩
abbrev cX8_spoonsAway : ByteArray := prog_1_method_42_code
def yX8_spoonsAway : MethodName := ⟨RX8, "spoonsAway", "()I"⟩
abbrev cX8_nextSeed : ByteArray := prog_1_method_43_code
def yX8_nextSeed : MethodName := ⟨RX8, "nextSeed", "(I)I"⟩
abbrev cX8_drawOfTen : ByteArray := prog_1_method_44_code
def yX8_drawOfTen : MethodName := ⟨RX8, "drawOfTen", "(I)I"⟩
abbrev cX8_spreadOdds : ByteArray := prog_1_method_45_code
def yX8_spreadOdds : MethodName := ⟨RX8, "spreadOdds", "(II)J"⟩
abbrev cX8_spreadBy : ByteArray := prog_1_method_46_code
def yX8_spreadBy : MethodName := ⟨RX8, "spreadBy", "(I)V"⟩
abbrev cX8_greatestDivisor : ByteArray := prog_1_method_47_code
def yX8_greatestDivisor : MethodName := ⟨RX8, "greatestDivisor", "(JJ)J"⟩
abbrev cX8_bestSet : ByteArray := prog_1_method_48_code
def yX8_bestSet : MethodName := ⟨RX8, "bestSet", "(II)I"⟩
abbrev cX8_couldBePaidBy : ByteArray := prog_1_method_49_code
def yX8_couldBePaidBy : MethodName := ⟨RX8, "couldBePaidBy", "(I)I"⟩
abbrev cX8_leftBy : ByteArray := prog_1_method_50_code
def yX8_leftBy : MethodName := ⟨RX8, "leftBy", "(III)I"⟩
abbrev cX8_wouldBeAsSeen : ByteArray := prog_1_method_51_code
def yX8_wouldBeAsSeen : MethodName := ⟨RX8, "wouldBeAsSeen", "(I)Z"⟩
abbrev cX8_netAll : ByteArray := prog_1_method_52_code
def yX8_netAll : MethodName := ⟨RX8, "netAll", "()V"⟩
abbrev cX8_mostGroupsWithOneLess : ByteArray := prog_1_method_53_code
def yX8_mostGroupsWithOneLess : MethodName := ⟨RX8, "mostGroupsWithOneLess", "(I)I"⟩
abbrev cX8_with : ByteArray := prog_1_method_54_code
def yX8_with : MethodName := ⟨RX8, "with", "(JJ)J"⟩
abbrev cX8_withThieves : ByteArray := prog_1_method_55_code
def yX8_withThieves : MethodName := ⟨RX8, "withThieves", "(J)J"⟩
abbrev cX8_withHouses : ByteArray := prog_1_method_56_code
def yX8_withHouses : MethodName := ⟨RX8, "withHouses", "(J)J"⟩
abbrev cX8_withSpoons : ByteArray := prog_1_method_57_code
def yX8_withSpoons : MethodName := ⟨RX8, "withSpoons", "(J)J"⟩
abbrev cX8_withOutlook : ByteArray := prog_1_method_58_code
def yX8_withOutlook : MethodName := ⟨RX8, "withOutlook", "(J)J"⟩
def RX9 : String := "ThievesPaidModel"
def TX9 : u_T := fun k => match k with
  | 0 => ("ThievesPaidModel", "page", "[I", true)
  | 1 => ("ThievesPaidModel", "pageMany", "I", false)
  | 2 => ("ThievesPaidModel", "readRows", "[I", true)
  | 3 => ("ThievesPaidModel", "readMany", "I", false)
  | 4 => ("ThievesPaidModel", "state", "I", false)
  | 5 => ("ThievesPaidModel", "thieves", "I", false)
  | 6 => ("ThievesPaidModel", "contractsRead", "I", false)
  | 7 => ("ThievesPaidModel", "rows", "[I", true)
  | 8 => ("ThievesPaidModel", "paidBits", "I", false)
  | 9 => ("ThievesPaidModel", "comes", "[I", true)
  | 10 => ("ThievesPaidModel", "spoons", "I", false)
  | 11 => ("ThievesPaidModel", "gone", "I", false)
  | 12 => ("ThievesPaidModel", "fees", "I", false)
  | 13 => ("ThievesPaidModel", "dogs", "I", false)
  | 14 => ("ThievesPaidModel", "locks", "[I", true)
  | 15 => ("ThievesPaidModel", "spoonRows", "[I", true)
  | 16 => ("ThievesPaidModel", "there", "[I", true)
  | 17 => ("ThievesPaidModel", "shut", "[I", true)
  | 18 => ("ThievesPaidModel", "likely", "[J", true)
  | 19 => ("ThievesPaidModel", "groups", "[I", true)
  | 20 => ("ThievesPaidModel", "balances", "[I", true)
  | 21 => ("ThievesPaidModel", "seedNow", "I", false)
  | 22 => ("ThievesPaidModel", "keptRead", "I", false)
  | 23 => ("ThievesPaidModel", "keptSpoons", "I", false)
  | 24 => ("ThievesPaidModel", "keptGone", "I", false)
  | 25 => ("ThievesPaidModel", "keptFees", "I", false)
  | 26 => ("ThievesPaidModel", "keptDogs", "I", false)
  | 27 => ("ThievesPaidModel", "keptPaid", "I", false)
  | 28 => ("ThievesPaidModel", "keptLocks", "[I", true)
  | 29 => ("ThievesPaidModel", "keptComes", "[I", true)
  | 30 => ("ThievesPaidModel", "keptRows", "[I", true)
  | _ => ("ThievesPaidModel", "hash", "J", false)
def tyX9 : Nat → FieldType := fun k => match k with
  | 0 => .array .int
  | 1 => .int
  | 2 => .array .int
  | 3 => .int
  | 4 => .int
  | 5 => .int
  | 6 => .int
  | 7 => .array .int
  | 8 => .int
  | 9 => .array .int
  | 10 => .int
  | 11 => .int
  | 12 => .int
  | 13 => .int
  | 14 => .array .int
  | 15 => .array .int
  | 16 => .array .int
  | 17 => .array .int
  | 18 => .array .long
  | 19 => .array .int
  | 20 => .array .int
  | 21 => .int
  | 22 => .int
  | 23 => .int
  | 24 => .int
  | 25 => .int
  | 26 => .int
  | 27 => .int
  | 28 => .array .int
  | 29 => .array .int
  | 30 => .array .int
  | _ => .long
abbrev wsX90 : List Cond := u_ws RX9 TX9 32
theorem nmX9 : ∀ a, a < 32 → ∀ b, b < 32 → a ≠ b → (TX9 a).2.1 ≠ (TX9 b).2.1 := by decide +kernel
theorem tyX9_ok : ∀ k, k < 32 → parseFieldDescriptor (TX9 k).2.2.1 = some (tyX9 k) := by decide +kernel
abbrev cX9_init : ByteArray := prog_11_method_1_code
def yX9_init : MethodName := ⟨RX9, "<init>", "()V"⟩
abbrev cX9_in : ByteArray := prog_11_method_2_code
def yX9_in : MethodName := ⟨RX9, "in", "(JJJ)Z"⟩
abbrev cX9_letters : ByteArray := prog_11_method_3_code
def yX9_letters : MethodName := ⟨RX9, "letters", "(J)I"⟩
abbrev cX9_blank : ByteArray := prog_11_method_4_code
def yX9_blank : MethodName := ⟨RX9, "blank", "()I"⟩
abbrev cX9_kindOf : ByteArray := prog_11_method_5_code
def yX9_kindOf : MethodName := ⟨RX9, "kindOf", "(I)I"⟩
abbrev cX9_goDigit : ByteArray := prog_11_method_6_code
def yX9_goDigit : MethodName := ⟨RX9, "goDigit", "(I)Z"⟩
abbrev cX9_go : ByteArray := prog_11_method_7_code
def yX9_go : MethodName := ⟨RX9, "go", "(I)Z"⟩
abbrev cX9_faultOf : ByteArray := prog_11_method_8_code
def yX9_faultOf : MethodName := ⟨RX9, "faultOf", "()I"⟩
abbrev cX9_fault : ByteArray := prog_11_method_9_code
def yX9_fault : MethodName := ⟨RX9, "fault", "()I"⟩
abbrev cX9_contracts : ByteArray := prog_11_method_10_code
def yX9_contracts : MethodName := ⟨RX9, "contracts", "()I"⟩
abbrev cX9_lacks : ByteArray := prog_11_method_11_code
def yX9_lacks : MethodName := ⟨RX9, "lacks", "()Z"⟩
abbrev cX9_isThief : ByteArray := prog_11_method_12_code
def yX9_isThief : MethodName := ⟨RX9, "isThief", "(I)Z"⟩
abbrev cX9_isHouse : ByteArray := prog_11_method_13_code
def yX9_isHouse : MethodName := ⟨RX9, "isHouse", "(I)Z"⟩
abbrev cX9_tell : ByteArray := prog_11_method_14_code
def yX9_tell : MethodName := ⟨RX9, "tell", "(II)I"⟩
abbrev cX9_about : ByteArray := prog_11_method_15_code
def yX9_about : MethodName := ⟨RX9, "about", "(II)I"⟩
abbrev cX9_as : ByteArray := prog_11_method_16_code
def yX9_as : MethodName := ⟨RX9, "as", "(II)I"⟩
abbrev cX9_paid : ByteArray := prog_11_method_17_code
def yX9_paid : MethodName := ⟨RX9, "paid", "(IZ)I"⟩
abbrev cX9_tenths : ByteArray := prog_11_method_18_code
def yX9_tenths : MethodName := ⟨RX9, "tenths", "(II)I"⟩
abbrev cX9_isSpoon : ByteArray := prog_11_method_19_code
def yX9_isSpoon : MethodName := ⟨RX9, "isSpoon", "(I)Z"⟩
abbrev cX9_lock : ByteArray := prog_11_method_20_code
def yX9_lock : MethodName := ⟨RX9, "lock", "(II)I"⟩
abbrev cX9_dog : ByteArray := prog_11_method_21_code
def yX9_dog : MethodName := ⟨RX9, "dog", "(IZ)I"⟩
abbrev cX9_spoon : ByteArray := prog_11_method_22_code
def yX9_spoon : MethodName := ⟨RX9, "spoon", "(II)I"⟩
abbrev cX9_silver : ByteArray := prog_11_method_23_code
def yX9_silver : MethodName := ⟨RX9, "silver", "(II)I"⟩
abbrev cX9_worthOf : ByteArray := prog_11_method_24_code
def yX9_worthOf : MethodName := ⟨RX9, "worthOf", "(I)I"⟩
abbrev cX9_worth : ByteArray := prog_11_method_25_code
def yX9_worth : MethodName := ⟨RX9, "worth", "(I)I"⟩
abbrev cX9_begin : ByteArray := prog_11_method_26_code
def yX9_begin : MethodName := ⟨RX9, "begin", "()V"⟩
abbrev cX9_fromOf : ByteArray := prog_11_method_27_code
def yX9_fromOf : MethodName := ⟨RX9, "fromOf", "(II)I"⟩
abbrev cX9_toOf : ByteArray := prog_11_method_28_code
def yX9_toOf : MethodName := ⟨RX9, "toOf", "(II)I"⟩
abbrev cX9_mayTake : ByteArray := prog_11_method_29_code
def yX9_mayTake : MethodName := ⟨RX9, "mayTake", "(II)Z"⟩
abbrev cX9_pick : ByteArray := prog_11_method_30_code
def yX9_pick : MethodName := ⟨RX9, "pick", "(IZ)I"⟩
abbrev cX9_visit : ByteArray := prog_11_method_31_code
def yX9_visit : MethodName := ⟨RX9, "visit", "(II)I"⟩
abbrev cX9_pass : ByteArray := prog_11_method_32_code
def yX9_pass : MethodName := ⟨RX9, "pass", "(II)I"⟩
abbrev cX9_month : ByteArray := prog_11_method_33_code
def yX9_month : MethodName := ⟨RX9, "month", "()I"⟩
abbrev cX9_where : ByteArray := prog_11_method_34_code
def yX9_where : MethodName := ⟨RX9, "where", "(II)I"⟩
abbrev cX9_term : ByteArray := prog_11_method_35_code
def yX9_term : MethodName := ⟨RX9, "term", "(JJI)J"⟩
abbrev cX9_chance : ByteArray := prog_11_method_36_code
def yX9_chance : MethodName := ⟨RX9, "chance", "(IIII)J"⟩
abbrev cX9_ones : ByteArray := prog_11_method_37_code
def yX9_ones : MethodName := ⟨RX9, "ones", "(I)I"⟩
abbrev cX9_inHouse : ByteArray := prog_11_method_38_code
def yX9_inHouse : MethodName := ⟨RX9, "inHouse", "(I)I"⟩
abbrev cX9_whomOf : ByteArray := prog_11_method_39_code
def yX9_whomOf : MethodName := ⟨RX9, "whomOf", "(III)I"⟩
abbrev cX9_whom : ByteArray := prog_11_method_40_code
def yX9_whom : MethodName := ⟨RX9, "whom", "(III)I"⟩
abbrev cX9_stillOf : ByteArray := prog_11_method_41_code
def yX9_stillOf : MethodName := ⟨RX9, "stillOf", "()I"⟩
abbrev cX9_still : ByteArray := prog_11_method_42_code
def yX9_still : MethodName := ⟨RX9, "still", "()I"⟩
abbrev cX9_seen : ByteArray := prog_11_method_43_code
def yX9_seen : MethodName := ⟨RX9, "seen", "(II)I"⟩
abbrev cX9_isSeenSo : ByteArray := prog_11_method_44_code
def yX9_isSeenSo : MethodName := ⟨RX9, "isSeenSo", "(I)Z"⟩
abbrev cX9_whoOf : ByteArray := prog_11_method_45_code
def yX9_whoOf : MethodName := ⟨RX9, "whoOf", "()I"⟩
abbrev cX9_who : ByteArray := prog_11_method_46_code
def yX9_who : MethodName := ⟨RX9, "who", "()I"⟩
abbrev cX9_owesOf : ByteArray := prog_11_method_47_code
def yX9_owesOf : MethodName := ⟨RX9, "owesOf", "(II)I"⟩
abbrev cX9_owes : ByteArray := prog_11_method_48_code
def yX9_owes : MethodName := ⟨RX9, "owes", "(II)I"⟩
abbrev cX9_balance : ByteArray := prog_11_method_49_code
def yX9_balance : MethodName := ⟨RX9, "balance", "(I)I"⟩
abbrev cX9_fewestOf : ByteArray := prog_11_method_50_code
def yX9_fewestOf : MethodName := ⟨RX9, "fewestOf", "()I"⟩
abbrev cX9_fewest : ByteArray := prog_11_method_51_code
def yX9_fewest : MethodName := ⟨RX9, "fewest", "()I"⟩
abbrev cX9_draw : ByteArray := prog_11_method_52_code
def yX9_draw : MethodName := ⟨RX9, "draw", "(I)I"⟩
abbrev cX9_months : ByteArray := prog_11_method_53_code
def yX9_months : MethodName := ⟨RX9, "months", "(III)I"⟩
abbrev cX9_copy : ByteArray := prog_11_method_54_code
def yX9_copy : MethodName := ⟨RX9, "copy", "([I[I)V"⟩
abbrev cX9_image : ByteArray := prog_11_method_55_code
def yX9_image : MethodName := ⟨RX9, "image", "()I"⟩
abbrev cX9_restore : ByteArray := prog_11_method_56_code
def yX9_restore : MethodName := ⟨RX9, "restore", "()I"⟩
abbrev cX9_countOf : ByteArray := prog_11_method_57_code
def yX9_countOf : MethodName := ⟨RX9, "countOf", "(I)I"⟩
abbrev cX9_count : ByteArray := prog_11_method_58_code
def yX9_count : MethodName := ⟨RX9, "count", "(I)I"⟩
abbrev cX9_say : ByteArray := prog_11_method_59_code
def yX9_say : MethodName := ⟨RX9, "say", "(J)V"⟩
abbrev cX9_digest : ByteArray := prog_11_method_60_code
def yX9_digest : MethodName := ⟨RX9, "digest", "()J"⟩
def RJ6 : String := "java/lang/Integer"
abbrev cJ6_numberOfTrailingZeros_0f7a4 : ByteArray := prog_12_method_48_code
def yJ6_numberOfTrailingZeros_0f7a4 : MethodName := ⟨RJ6, "numberOfTrailingZeros", "(I)I"⟩
abbrev cJ6_bitCount_0f7a4 : ByteArray := prog_12_method_49_code
def yJ6_bitCount_0f7a4 : MethodName := ⟨RJ6, "bitCount", "(I)I"⟩
def RJ9 : String := "java/lang/Math"
abbrev cJ9_max_7cf53 : ByteArray := prog_13_method_65_code
def yJ9_max_7cf53 : MethodName := ⟨RJ9, "max", "(II)I"⟩
def RL : String := "ThievesPaidLaw"
abbrev cL_law : ByteArray := code
def yL_law : MethodName := ⟨RL, "law", "([I)Z"⟩
abbrev vwCl : List vw_C := [(RX0, TX0, 3), (RX1, TX1, 8), (RX2, TX2, 3), (RX3, TX3, 3), (RX4, TX4, 2), (RX5, TX5, 6), (RX6, TX6, 3), (RX7, TX7, 3), (RX8, TX8, 18), (RX9, TX9, 32)]
end
section
theorem dX0_init_0 : decode cX0_init 0 = .ok (.aload_n 0, 1) := by decide +kernel
theorem dX0_init_1 : decode cX0_init 1 = .ok (.iload_n 1, 1) := by decide +kernel
theorem dX0_init_2 : decode cX0_init 2 = .ok (.iload_n 2, 1) := by decide +kernel
theorem dX0_init_3 : decode cX0_init 3 = .ok (.iload_n 3, 1) := by decide +kernel
theorem dX0_init_4 : decode cX0_init 4 = .ok (.invokespecial 1, 3) := by decide +kernel
theorem dX0_init_7 : decode cX0_init 7 = .ok (.return_, 1) := by decide +kernel
theorem dX0_kind_0 : decode cX0_kind 0 = .ok (.iconst 2, 1) := by decide +kernel
theorem dX0_kind_1 : decode cX0_kind 1 = .ok (.ireturn, 1) := by decide +kernel
theorem dX0_likesBetter_0 : decode cX0_likesBetter 0 = .ok (.iload_n 1, 1) := by decide +kernel
theorem dX0_likesBetter_1 : decode cX0_likesBetter 1 = .ok (.iload_n 2, 1) := by decide +kernel
theorem dX0_likesBetter_2 : decode cX0_likesBetter 2 = .ok (.if_icmp .ge 7, 3) := by decide +kernel
theorem dX0_likesBetter_5 : decode cX0_likesBetter 5 = .ok (.iconst 1, 1) := by decide +kernel
theorem dX0_likesBetter_6 : decode cX0_likesBetter 6 = .ok (.goto 4, 3) := by decide +kernel
theorem dX0_likesBetter_9 : decode cX0_likesBetter 9 = .ok (.iconst 0, 1) := by decide +kernel
theorem dX0_likesBetter_10 : decode cX0_likesBetter 10 = .ok (.ireturn, 1) := by decide +kernel
theorem dX1_init_0 : decode cX1_init 0 = .ok (.aload_n 0, 1) := by decide +kernel
theorem dX1_init_1 : decode cX1_init 1 = .ok (.invokespecial 3, 3) := by decide +kernel
theorem dX1_init_4 : decode cX1_init 4 = .ok (.aload_n 0, 1) := by decide +kernel
theorem dX1_init_5 : decode cX1_init 5 = .ok (.bipush 8, 2) := by decide +kernel
theorem dX1_init_7 : decode cX1_init 7 = .ok (.newarray .int, 2) := by decide +kernel
theorem dX1_init_9 : decode cX1_init 9 = .ok (.putfield 9, 3) := by decide +kernel
theorem dX1_init_12 : decode cX1_init 12 = .ok (.aload_n 0, 1) := by decide +kernel
theorem dX1_init_13 : decode cX1_init 13 = .ok (.bipush 8, 2) := by decide +kernel
theorem dX1_init_15 : decode cX1_init 15 = .ok (.newarray .int, 2) := by decide +kernel
theorem dX1_init_17 : decode cX1_init 17 = .ok (.putfield 15, 3) := by decide +kernel
theorem dX1_init_20 : decode cX1_init 20 = .ok (.aload_n 0, 1) := by decide +kernel
theorem dX1_init_21 : decode cX1_init 21 = .ok (.bipush 8, 2) := by decide +kernel
theorem dX1_init_23 : decode cX1_init 23 = .ok (.newarray .int, 2) := by decide +kernel
theorem dX1_init_25 : decode cX1_init 25 = .ok (.putfield 18, 3) := by decide +kernel
theorem dX1_init_28 : decode cX1_init 28 = .ok (.aload_n 0, 1) := by decide +kernel
theorem dX1_init_29 : decode cX1_init 29 = .ok (.bipush 8, 2) := by decide +kernel
theorem dX1_init_31 : decode cX1_init 31 = .ok (.newarray .boolean, 2) := by decide +kernel
theorem dX1_init_33 : decode cX1_init 33 = .ok (.putfield 21, 3) := by decide +kernel
theorem dX1_init_36 : decode cX1_init 36 = .ok (.aload_n 0, 1) := by decide +kernel
theorem dX1_init_37 : decode cX1_init 37 = .ok (.bipush 8, 2) := by decide +kernel
theorem dX1_init_39 : decode cX1_init 39 = .ok (.newarray .boolean, 2) := by decide +kernel
theorem dX1_init_41 : decode cX1_init 41 = .ok (.putfield 25, 3) := by decide +kernel
theorem dX1_init_44 : decode cX1_init 44 = .ok (.aload_n 0, 1) := by decide +kernel
theorem dX1_init_45 : decode cX1_init 45 = .ok (.bipush 8, 2) := by decide +kernel
theorem dX1_init_47 : decode cX1_init 47 = .ok (.newarray .int, 2) := by decide +kernel
theorem dX1_init_49 : decode cX1_init 49 = .ok (.putfield 28, 3) := by decide +kernel
theorem dX1_init_52 : decode cX1_init 52 = .ok (.aload_n 0, 1) := by decide +kernel
theorem dX1_init_53 : decode cX1_init 53 = .ok (.iconst 0, 1) := by decide +kernel
theorem dX1_init_54 : decode cX1_init 54 = .ok (.putfield 31, 3) := by decide +kernel
theorem dX1_init_57 : decode cX1_init 57 = .ok (.aload_n 0, 1) := by decide +kernel
theorem dX1_init_58 : decode cX1_init 58 = .ok (.iconst 0, 1) := by decide +kernel
theorem dX1_init_59 : decode cX1_init 59 = .ok (.putfield 35, 3) := by decide +kernel
theorem dX1_init_62 : decode cX1_init 62 = .ok (.return_, 1) := by decide +kernel
theorem dX1_takeOver_0 : decode cX1_takeOver 0 = .ok (.iconst 0, 1) := by decide +kernel
theorem dX1_takeOver_1 : decode cX1_takeOver 1 = .ok (.istore_n 2, 1) := by decide +kernel
theorem dX1_takeOver_2 : decode cX1_takeOver 2 = .ok (.iload_n 2, 1) := by decide +kernel
theorem dX1_takeOver_3 : decode cX1_takeOver 3 = .ok (.bipush 8, 2) := by decide +kernel
theorem dX1_takeOver_5 : decode cX1_takeOver 5 = .ok (.if_icmp .ge 33, 3) := by decide +kernel
theorem dX1_takeOver_8 : decode cX1_takeOver 8 = .ok (.aload_n 0, 1) := by decide +kernel
theorem dX1_takeOver_9 : decode cX1_takeOver 9 = .ok (.getfield 9, 3) := by decide +kernel
theorem dX1_takeOver_12 : decode cX1_takeOver 12 = .ok (.iload_n 2, 1) := by decide +kernel
theorem dX1_takeOver_13 : decode cX1_takeOver 13 = .ok (.aload_n 1, 1) := by decide +kernel
theorem dX1_takeOver_14 : decode cX1_takeOver 14 = .ok (.getfield 9, 3) := by decide +kernel
theorem dX1_takeOver_17 : decode cX1_takeOver 17 = .ok (.iload_n 2, 1) := by decide +kernel
theorem dX1_takeOver_18 : decode cX1_takeOver 18 = .ok (.iaload, 1) := by decide +kernel
theorem dX1_takeOver_19 : decode cX1_takeOver 19 = .ok (.iastore, 1) := by decide +kernel
theorem dX1_takeOver_20 : decode cX1_takeOver 20 = .ok (.aload_n 0, 1) := by decide +kernel
theorem dX1_takeOver_21 : decode cX1_takeOver 21 = .ok (.getfield 15, 3) := by decide +kernel
theorem dX1_takeOver_24 : decode cX1_takeOver 24 = .ok (.iload_n 2, 1) := by decide +kernel
theorem dX1_takeOver_25 : decode cX1_takeOver 25 = .ok (.aload_n 1, 1) := by decide +kernel
theorem dX1_takeOver_26 : decode cX1_takeOver 26 = .ok (.getfield 15, 3) := by decide +kernel
theorem dX1_takeOver_29 : decode cX1_takeOver 29 = .ok (.iload_n 2, 1) := by decide +kernel
theorem dX1_takeOver_30 : decode cX1_takeOver 30 = .ok (.iaload, 1) := by decide +kernel
theorem dX1_takeOver_31 : decode cX1_takeOver 31 = .ok (.iastore, 1) := by decide +kernel
theorem dX1_takeOver_32 : decode cX1_takeOver 32 = .ok (.iinc 2 1, 3) := by decide +kernel
theorem dX1_takeOver_35 : decode cX1_takeOver 35 = .ok (.goto (-33), 3) := by decide +kernel
theorem dX1_takeOver_38 : decode cX1_takeOver 38 = .ok (.iconst 0, 1) := by decide +kernel
theorem dX1_takeOver_39 : decode cX1_takeOver 39 = .ok (.istore_n 2, 1) := by decide +kernel
theorem dX1_takeOver_40 : decode cX1_takeOver 40 = .ok (.iload_n 2, 1) := by decide +kernel
theorem dX1_takeOver_41 : decode cX1_takeOver 41 = .ok (.bipush 8, 2) := by decide +kernel
theorem dX1_takeOver_43 : decode cX1_takeOver 43 = .ok (.if_icmp .ge 33, 3) := by decide +kernel
theorem dX1_takeOver_46 : decode cX1_takeOver 46 = .ok (.aload_n 0, 1) := by decide +kernel
theorem dX1_takeOver_47 : decode cX1_takeOver 47 = .ok (.getfield 18, 3) := by decide +kernel
theorem dX1_takeOver_50 : decode cX1_takeOver 50 = .ok (.iload_n 2, 1) := by decide +kernel
theorem dX1_takeOver_51 : decode cX1_takeOver 51 = .ok (.aload_n 1, 1) := by decide +kernel
theorem dX1_takeOver_52 : decode cX1_takeOver 52 = .ok (.getfield 18, 3) := by decide +kernel
theorem dX1_takeOver_55 : decode cX1_takeOver 55 = .ok (.iload_n 2, 1) := by decide +kernel
theorem dX1_takeOver_56 : decode cX1_takeOver 56 = .ok (.iaload, 1) := by decide +kernel
theorem dX1_takeOver_57 : decode cX1_takeOver 57 = .ok (.iastore, 1) := by decide +kernel
theorem dX1_takeOver_58 : decode cX1_takeOver 58 = .ok (.aload_n 0, 1) := by decide +kernel
theorem dX1_takeOver_59 : decode cX1_takeOver 59 = .ok (.getfield 21, 3) := by decide +kernel
theorem dX1_takeOver_62 : decode cX1_takeOver 62 = .ok (.iload_n 2, 1) := by decide +kernel
theorem dX1_takeOver_63 : decode cX1_takeOver 63 = .ok (.aload_n 1, 1) := by decide +kernel
theorem dX1_takeOver_64 : decode cX1_takeOver 64 = .ok (.getfield 21, 3) := by decide +kernel
theorem dX1_takeOver_67 : decode cX1_takeOver 67 = .ok (.iload_n 2, 1) := by decide +kernel
theorem dX1_takeOver_68 : decode cX1_takeOver 68 = .ok (.baload, 1) := by decide +kernel
theorem dX1_takeOver_69 : decode cX1_takeOver 69 = .ok (.bastore, 1) := by decide +kernel
theorem dX1_takeOver_70 : decode cX1_takeOver 70 = .ok (.iinc 2 1, 3) := by decide +kernel
theorem dX1_takeOver_73 : decode cX1_takeOver 73 = .ok (.goto (-33), 3) := by decide +kernel
theorem dX1_takeOver_76 : decode cX1_takeOver 76 = .ok (.iconst 0, 1) := by decide +kernel
theorem dX1_takeOver_77 : decode cX1_takeOver 77 = .ok (.istore_n 2, 1) := by decide +kernel
theorem dX1_takeOver_78 : decode cX1_takeOver 78 = .ok (.iload_n 2, 1) := by decide +kernel
theorem dX1_takeOver_79 : decode cX1_takeOver 79 = .ok (.bipush 8, 2) := by decide +kernel
theorem dX1_takeOver_81 : decode cX1_takeOver 81 = .ok (.if_icmp .ge 33, 3) := by decide +kernel
theorem dX1_takeOver_84 : decode cX1_takeOver 84 = .ok (.aload_n 0, 1) := by decide +kernel
theorem dX1_takeOver_85 : decode cX1_takeOver 85 = .ok (.getfield 25, 3) := by decide +kernel
theorem dX1_takeOver_88 : decode cX1_takeOver 88 = .ok (.iload_n 2, 1) := by decide +kernel
theorem dX1_takeOver_89 : decode cX1_takeOver 89 = .ok (.aload_n 1, 1) := by decide +kernel
theorem dX1_takeOver_90 : decode cX1_takeOver 90 = .ok (.getfield 25, 3) := by decide +kernel
theorem dX1_takeOver_93 : decode cX1_takeOver 93 = .ok (.iload_n 2, 1) := by decide +kernel
theorem dX1_takeOver_94 : decode cX1_takeOver 94 = .ok (.baload, 1) := by decide +kernel
theorem dX1_takeOver_95 : decode cX1_takeOver 95 = .ok (.bastore, 1) := by decide +kernel
theorem dX1_takeOver_96 : decode cX1_takeOver 96 = .ok (.aload_n 0, 1) := by decide +kernel
theorem dX1_takeOver_97 : decode cX1_takeOver 97 = .ok (.getfield 28, 3) := by decide +kernel
theorem dX1_takeOver_100 : decode cX1_takeOver 100 = .ok (.iload_n 2, 1) := by decide +kernel
theorem dX1_takeOver_101 : decode cX1_takeOver 101 = .ok (.aload_n 1, 1) := by decide +kernel
theorem dX1_takeOver_102 : decode cX1_takeOver 102 = .ok (.getfield 28, 3) := by decide +kernel
theorem dX1_takeOver_105 : decode cX1_takeOver 105 = .ok (.iload_n 2, 1) := by decide +kernel
theorem dX1_takeOver_106 : decode cX1_takeOver 106 = .ok (.iaload, 1) := by decide +kernel
theorem dX1_takeOver_107 : decode cX1_takeOver 107 = .ok (.iastore, 1) := by decide +kernel
theorem dX1_takeOver_108 : decode cX1_takeOver 108 = .ok (.iinc 2 1, 3) := by decide +kernel
theorem dX1_takeOver_111 : decode cX1_takeOver 111 = .ok (.goto (-33), 3) := by decide +kernel
theorem dX1_takeOver_114 : decode cX1_takeOver 114 = .ok (.aload_n 0, 1) := by decide +kernel
theorem dX1_takeOver_115 : decode cX1_takeOver 115 = .ok (.aload_n 1, 1) := by decide +kernel
theorem dX1_takeOver_116 : decode cX1_takeOver 116 = .ok (.getfield 31, 3) := by decide +kernel
theorem dX1_takeOver_119 : decode cX1_takeOver 119 = .ok (.putfield 31, 3) := by decide +kernel
theorem dX1_takeOver_122 : decode cX1_takeOver 122 = .ok (.aload_n 0, 1) := by decide +kernel
theorem dX1_takeOver_123 : decode cX1_takeOver 123 = .ok (.aload_n 1, 1) := by decide +kernel
theorem dX1_takeOver_124 : decode cX1_takeOver 124 = .ok (.getfield 35, 3) := by decide +kernel
theorem dX1_takeOver_127 : decode cX1_takeOver 127 = .ok (.putfield 35, 3) := by decide +kernel
theorem dX1_takeOver_130 : decode cX1_takeOver 130 = .ok (.return_, 1) := by decide +kernel
theorem dX1_lapseLocks_0 : decode cX1_lapseLocks 0 = .ok (.iconst 0, 1) := by decide +kernel
theorem dX1_lapseLocks_1 : decode cX1_lapseLocks 1 = .ok (.istore_n 1, 1) := by decide +kernel
theorem dX1_lapseLocks_2 : decode cX1_lapseLocks 2 = .ok (.iload_n 1, 1) := by decide +kernel
theorem dX1_lapseLocks_3 : decode cX1_lapseLocks 3 = .ok (.bipush 8, 2) := by decide +kernel
theorem dX1_lapseLocks_5 : decode cX1_lapseLocks 5 = .ok (.if_icmp .ge 27, 3) := by decide +kernel
theorem dX1_lapseLocks_8 : decode cX1_lapseLocks 8 = .ok (.aload_n 0, 1) := by decide +kernel
theorem dX1_lapseLocks_9 : decode cX1_lapseLocks 9 = .ok (.getfield 18, 3) := by decide +kernel
theorem dX1_lapseLocks_12 : decode cX1_lapseLocks 12 = .ok (.iload_n 1, 1) := by decide +kernel
theorem dX1_lapseLocks_13 : decode cX1_lapseLocks 13 = .ok (.iconst 0, 1) := by decide +kernel
theorem dX1_lapseLocks_14 : decode cX1_lapseLocks 14 = .ok (.aload_n 0, 1) := by decide +kernel
theorem dX1_lapseLocks_15 : decode cX1_lapseLocks 15 = .ok (.getfield 18, 3) := by decide +kernel
theorem dX1_lapseLocks_18 : decode cX1_lapseLocks 18 = .ok (.iload_n 1, 1) := by decide +kernel
theorem dX1_lapseLocks_19 : decode cX1_lapseLocks 19 = .ok (.iaload, 1) := by decide +kernel
theorem dX1_lapseLocks_20 : decode cX1_lapseLocks 20 = .ok (.iconst 1, 1) := by decide +kernel
theorem dX1_lapseLocks_21 : decode cX1_lapseLocks 21 = .ok (.isub, 1) := by decide +kernel
theorem dX1_lapseLocks_22 : decode cX1_lapseLocks 22 = .ok (.invokestatic 38, 3) := by decide +kernel
theorem dX1_lapseLocks_25 : decode cX1_lapseLocks 25 = .ok (.iastore, 1) := by decide +kernel
theorem dX1_lapseLocks_26 : decode cX1_lapseLocks 26 = .ok (.iinc 1 1, 3) := by decide +kernel
theorem dX1_lapseLocks_29 : decode cX1_lapseLocks 29 = .ok (.goto (-27), 3) := by decide +kernel
theorem dX1_lapseLocks_32 : decode cX1_lapseLocks 32 = .ok (.return_, 1) := by decide +kernel
theorem dX2_init_0 : decode cX2_init 0 = .ok (.aload_n 0, 1) := by decide +kernel
theorem dX2_init_1 : decode cX2_init 1 = .ok (.iload_n 1, 1) := by decide +kernel
theorem dX2_init_2 : decode cX2_init 2 = .ok (.iload_n 2, 1) := by decide +kernel
theorem dX2_init_3 : decode cX2_init 3 = .ok (.iload_n 3, 1) := by decide +kernel
theorem dX2_init_4 : decode cX2_init 4 = .ok (.invokespecial 1, 3) := by decide +kernel
theorem dX2_init_7 : decode cX2_init 7 = .ok (.return_, 1) := by decide +kernel
theorem dX2_kind_0 : decode cX2_kind 0 = .ok (.iconst 3, 1) := by decide +kernel
theorem dX2_kind_1 : decode cX2_kind 1 = .ok (.ireturn, 1) := by decide +kernel
theorem dX2_mostTaken_0 : decode cX2_mostTaken 0 = .ok (.iconst 0, 1) := by decide +kernel
theorem dX2_mostTaken_1 : decode cX2_mostTaken 1 = .ok (.ireturn, 1) := by decide +kernel
theorem dX3_init_0 : decode cX3_init 0 = .ok (.aload_n 0, 1) := by decide +kernel
theorem dX3_init_1 : decode cX3_init 1 = .ok (.iload_n 1, 1) := by decide +kernel
theorem dX3_init_2 : decode cX3_init 2 = .ok (.iload_n 2, 1) := by decide +kernel
theorem dX3_init_3 : decode cX3_init 3 = .ok (.iload_n 3, 1) := by decide +kernel
theorem dX3_init_4 : decode cX3_init 4 = .ok (.invokespecial 1, 3) := by decide +kernel
theorem dX3_init_7 : decode cX3_init 7 = .ok (.return_, 1) := by decide +kernel
theorem dX3_kind_0 : decode cX3_kind 0 = .ok (.iconst 4, 1) := by decide +kernel
theorem dX3_kind_1 : decode cX3_kind 1 = .ok (.ireturn, 1) := by decide +kernel
theorem dX3_isKeptOut_0 : decode cX3_isKeptOut 0 = .ok (.iload_n 1, 1) := by decide +kernel
theorem dX3_isKeptOut_1 : decode cX3_isKeptOut 1 = .ok (.ireturn, 1) := by decide +kernel
theorem dX4_init_0 : decode cX4_init 0 = .ok (.aload_n 0, 1) := by decide +kernel
theorem dX4_init_1 : decode cX4_init 1 = .ok (.invokespecial 1, 3) := by decide +kernel
theorem dX4_init_4 : decode cX4_init 4 = .ok (.aload_n 0, 1) := by decide +kernel
theorem dX4_init_5 : decode cX4_init 5 = .ok (.bipush 40, 2) := by decide +kernel
theorem dX4_init_7 : decode cX4_init 7 = .ok (.newarray .int, 2) := by decide +kernel
theorem dX4_init_9 : decode cX4_init 9 = .ok (.putfield 9, 3) := by decide +kernel
theorem dX4_init_12 : decode cX4_init 12 = .ok (.aload_n 0, 1) := by decide +kernel
theorem dX4_init_13 : decode cX4_init 13 = .ok (.iconst 0, 1) := by decide +kernel
theorem dX4_init_14 : decode cX4_init 14 = .ok (.putfield 13, 3) := by decide +kernel
theorem dX4_init_17 : decode cX4_init 17 = .ok (.return_, 1) := by decide +kernel
theorem dX5_init_0 : decode cX5_init 0 = .ok (.aload_n 0, 1) := by decide +kernel
theorem dX5_init_1 : decode cX5_init 1 = .ok (.invokespecial 3, 3) := by decide +kernel
theorem dX5_init_4 : decode cX5_init 4 = .ok (.aload_n 0, 1) := by decide +kernel
theorem dX5_init_5 : decode cX5_init 5 = .ok (.bipush 8, 2) := by decide +kernel
theorem dX5_init_7 : decode cX5_init 7 = .ok (.newarray .int, 2) := by decide +kernel
theorem dX5_init_9 : decode cX5_init 9 = .ok (.putfield 9, 3) := by decide +kernel
theorem dX5_init_12 : decode cX5_init 12 = .ok (.aload_n 0, 1) := by decide +kernel
theorem dX5_init_13 : decode cX5_init 13 = .ok (.bipush 8, 2) := by decide +kernel
theorem dX5_init_15 : decode cX5_init 15 = .ok (.newarray .int, 2) := by decide +kernel
theorem dX5_init_17 : decode cX5_init 17 = .ok (.putfield 15, 3) := by decide +kernel
theorem dX5_init_20 : decode cX5_init 20 = .ok (.aload_n 0, 1) := by decide +kernel
theorem dX5_init_21 : decode cX5_init 21 = .ok (.bipush 8, 2) := by decide +kernel
theorem dX5_init_23 : decode cX5_init 23 = .ok (.newarray .int, 2) := by decide +kernel
theorem dX5_init_25 : decode cX5_init 25 = .ok (.putfield 18, 3) := by decide +kernel
theorem dX5_init_28 : decode cX5_init 28 = .ok (.aload_n 0, 1) := by decide +kernel
theorem dX5_init_29 : decode cX5_init 29 = .ok (.bipush 8, 2) := by decide +kernel
theorem dX5_init_31 : decode cX5_init 31 = .ok (.newarray .int, 2) := by decide +kernel
theorem dX5_init_33 : decode cX5_init 33 = .ok (.putfield 21, 3) := by decide +kernel
theorem dX5_init_36 : decode cX5_init 36 = .ok (.aload_n 0, 1) := by decide +kernel
theorem dX5_init_37 : decode cX5_init 37 = .ok (.iconst 0, 1) := by decide +kernel
theorem dX5_init_38 : decode cX5_init 38 = .ok (.putfield 24, 3) := by decide +kernel
theorem dX5_init_41 : decode cX5_init 41 = .ok (.aload_n 0, 1) := by decide +kernel
theorem dX5_init_42 : decode cX5_init 42 = .ok (.iconst 0, 1) := by decide +kernel
theorem dX5_init_43 : decode cX5_init 43 = .ok (.putfield 28, 3) := by decide +kernel
theorem dX5_init_46 : decode cX5_init 46 = .ok (.return_, 1) := by decide +kernel
theorem dX5_readAhead_0 : decode cX5_readAhead 0 = .ok (.aload_n 0, 1) := by decide +kernel
theorem dX5_readAhead_1 : decode cX5_readAhead 1 = .ok (.iconst 0, 1) := by decide +kernel
theorem dX5_readAhead_2 : decode cX5_readAhead 2 = .ok (.putfield 24, 3) := by decide +kernel
theorem dX5_readAhead_5 : decode cX5_readAhead 5 = .ok (.aload_n 0, 1) := by decide +kernel
theorem dX5_readAhead_6 : decode cX5_readAhead 6 = .ok (.iconst 0, 1) := by decide +kernel
theorem dX5_readAhead_7 : decode cX5_readAhead 7 = .ok (.putfield 28, 3) := by decide +kernel
theorem dX5_readAhead_10 : decode cX5_readAhead 10 = .ok (.iconst 0, 1) := by decide +kernel
theorem dX5_readAhead_11 : decode cX5_readAhead 11 = .ok (.istore_n 2, 1) := by decide +kernel
theorem dX5_readAhead_12 : decode cX5_readAhead 12 = .ok (.iload_n 2, 1) := by decide +kernel
theorem dX5_readAhead_13 : decode cX5_readAhead 13 = .ok (.aload_n 1, 1) := by decide +kernel
theorem dX5_readAhead_14 : decode cX5_readAhead 14 = .ok (.getfield 31, 3) := by decide +kernel
theorem dX5_readAhead_17 : decode cX5_readAhead 17 = .ok (.if_icmp .ge 22, 3) := by decide +kernel
theorem dX5_readAhead_20 : decode cX5_readAhead 20 = .ok (.aload_n 0, 1) := by decide +kernel
theorem dX5_readAhead_21 : decode cX5_readAhead 21 = .ok (.aload_n 1, 1) := by decide +kernel
theorem dX5_readAhead_22 : decode cX5_readAhead 22 = .ok (.getfield 36, 3) := by decide +kernel
theorem dX5_readAhead_25 : decode cX5_readAhead 25 = .ok (.iload_n 2, 1) := by decide +kernel
theorem dX5_readAhead_26 : decode cX5_readAhead 26 = .ok (.iaload, 1) := by decide +kernel
theorem dX5_readAhead_27 : decode cX5_readAhead 27 = .ok (.invokevirtual 39, 3) := by decide +kernel
theorem dX5_readAhead_30 : decode cX5_readAhead 30 = .ok (.ifCond .eq 9, 3) := by decide +kernel
theorem dX5_readAhead_33 : decode cX5_readAhead 33 = .ok (.iinc 2 1, 3) := by decide +kernel
theorem dX5_readAhead_36 : decode cX5_readAhead 36 = .ok (.goto (-24), 3) := by decide +kernel
theorem dX5_readAhead_39 : decode cX5_readAhead 39 = .ok (.iload_n 2, 1) := by decide +kernel
theorem dX5_readAhead_40 : decode cX5_readAhead 40 = .ok (.ireturn, 1) := by decide +kernel
theorem dX5_isAtEnd_0 : decode cX5_isAtEnd 0 = .ok (.aload_n 0, 1) := by decide +kernel
theorem dX5_isAtEnd_1 : decode cX5_isAtEnd 1 = .ok (.getfield 28, 3) := by decide +kernel
theorem dX5_isAtEnd_4 : decode cX5_isAtEnd 4 = .ok (.iconst 4, 1) := by decide +kernel
theorem dX5_isAtEnd_5 : decode cX5_isAtEnd 5 = .ok (.if_icmp .ne 7, 3) := by decide +kernel
theorem dX5_isAtEnd_8 : decode cX5_isAtEnd 8 = .ok (.iconst 1, 1) := by decide +kernel
theorem dX5_isAtEnd_9 : decode cX5_isAtEnd 9 = .ok (.goto 4, 3) := by decide +kernel
theorem dX5_isAtEnd_12 : decode cX5_isAtEnd 12 = .ok (.iconst 0, 1) := by decide +kernel
theorem dX5_isAtEnd_13 : decode cX5_isAtEnd 13 = .ok (.ireturn, 1) := by decide +kernel
theorem dX5_takes_0 : decode cX5_takes 0 = .ok (.aload_n 0, 1) := by decide +kernel
theorem dX5_takes_1 : decode cX5_takes 1 = .ok (.getfield 28, 3) := by decide +kernel
theorem dX5_takes_4 : decode cX5_takes 4 = .ok (.tableswitch 56 0 3 #[32, 38, 44, 50], 32) := by decide +kernel
theorem dX5_takes_36 : decode cX5_takes 36 = .ok (.aload_n 0, 1) := by decide +kernel
theorem dX5_takes_37 : decode cX5_takes 37 = .ok (.iload_n 1, 1) := by decide +kernel
theorem dX5_takes_38 : decode cX5_takes 38 = .ok (.invokevirtual 43, 3) := by decide +kernel
theorem dX5_takes_41 : decode cX5_takes 41 = .ok (.ireturn, 1) := by decide +kernel
theorem dX5_takes_42 : decode cX5_takes 42 = .ok (.aload_n 0, 1) := by decide +kernel
theorem dX5_takes_43 : decode cX5_takes 43 = .ok (.iload_n 1, 1) := by decide +kernel
theorem dX5_takes_44 : decode cX5_takes 44 = .ok (.invokevirtual 46, 3) := by decide +kernel
theorem dX5_takes_47 : decode cX5_takes 47 = .ok (.ireturn, 1) := by decide +kernel
theorem dX5_takes_48 : decode cX5_takes 48 = .ok (.aload_n 0, 1) := by decide +kernel
theorem dX5_takes_49 : decode cX5_takes 49 = .ok (.iload_n 1, 1) := by decide +kernel
theorem dX5_takes_50 : decode cX5_takes 50 = .ok (.invokevirtual 49, 3) := by decide +kernel
theorem dX5_takes_53 : decode cX5_takes 53 = .ok (.ireturn, 1) := by decide +kernel
theorem dX5_takes_54 : decode cX5_takes 54 = .ok (.aload_n 0, 1) := by decide +kernel
theorem dX5_takes_55 : decode cX5_takes 55 = .ok (.iload_n 1, 1) := by decide +kernel
theorem dX5_takes_56 : decode cX5_takes 56 = .ok (.invokevirtual 52, 3) := by decide +kernel
theorem dX5_takes_59 : decode cX5_takes 59 = .ok (.ireturn, 1) := by decide +kernel
theorem dX5_takes_60 : decode cX5_takes 60 = .ok (.aload_n 0, 1) := by decide +kernel
theorem dX5_takes_61 : decode cX5_takes 61 = .ok (.iload_n 1, 1) := by decide +kernel
theorem dX5_takes_62 : decode cX5_takes 62 = .ok (.invokevirtual 55, 3) := by decide +kernel
theorem dX5_takes_65 : decode cX5_takes 65 = .ok (.ireturn, 1) := by decide +kernel
theorem dX5_takesStart_0 : decode cX5_takesStart 0 = .ok (.aload_n 0, 1) := by decide +kernel
theorem dX5_takesStart_1 : decode cX5_takesStart 1 = .ok (.getfield 24, 3) := by decide +kernel
theorem dX5_takesStart_4 : decode cX5_takesStart 4 = .ok (.bipush 8, 2) := by decide +kernel
theorem dX5_takesStart_6 : decode cX5_takesStart 6 = .ok (.if_icmp .lt 5, 3) := by decide +kernel
theorem dX5_takesStart_9 : decode cX5_takesStart 9 = .ok (.iconst 0, 1) := by decide +kernel
theorem dX5_takesStart_10 : decode cX5_takesStart 10 = .ok (.ireturn, 1) := by decide +kernel
theorem dX5_takesStart_11 : decode cX5_takesStart 11 = .ok (.aload_n 0, 1) := by decide +kernel
theorem dX5_takesStart_12 : decode cX5_takesStart 12 = .ok (.getfield 9, 3) := by decide +kernel
theorem dX5_takesStart_15 : decode cX5_takesStart 15 = .ok (.aload_n 0, 1) := by decide +kernel
theorem dX5_takesStart_16 : decode cX5_takesStart 16 = .ok (.getfield 24, 3) := by decide +kernel
theorem dX5_takesStart_19 : decode cX5_takesStart 19 = .ok (.iload_n 1, 1) := by decide +kernel
theorem dX5_takesStart_20 : decode cX5_takesStart 20 = .ok (.invokestatic 58, 3) := by decide +kernel
theorem dX5_takesStart_23 : decode cX5_takesStart 23 = .ok (.iastore, 1) := by decide +kernel
theorem dX5_takesStart_24 : decode cX5_takesStart 24 = .ok (.aload_n 0, 1) := by decide +kernel
theorem dX5_takesStart_25 : decode cX5_takesStart 25 = .ok (.getfield 9, 3) := by decide +kernel
theorem dX5_takesStart_28 : decode cX5_takesStart 28 = .ok (.aload_n 0, 1) := by decide +kernel
theorem dX5_takesStart_29 : decode cX5_takesStart 29 = .ok (.getfield 24, 3) := by decide +kernel
theorem dX5_takesStart_32 : decode cX5_takesStart 32 = .ok (.iaload, 1) := by decide +kernel
theorem dX5_takesStart_33 : decode cX5_takesStart 33 = .ok (.ifCond .ne 9, 3) := by decide +kernel
theorem dX5_takesStart_36 : decode cX5_takesStart 36 = .ok (.aload_n 0, 1) := by decide +kernel
theorem dX5_takesStart_37 : decode cX5_takesStart 37 = .ok (.iload_n 1, 1) := by decide +kernel
theorem dX5_takesStart_38 : decode cX5_takesStart 38 = .ok (.invokevirtual 46, 3) := by decide +kernel
theorem dX5_takesStart_41 : decode cX5_takesStart 41 = .ok (.ireturn, 1) := by decide +kernel
theorem dX5_takesStart_42 : decode cX5_takesStart 42 = .ok (.aload_n 0, 1) := by decide +kernel
theorem dX5_takesStart_43 : decode cX5_takesStart 43 = .ok (.iconst 1, 1) := by decide +kernel
theorem dX5_takesStart_44 : decode cX5_takesStart 44 = .ok (.putfield 28, 3) := by decide +kernel
theorem dX5_takesStart_47 : decode cX5_takesStart 47 = .ok (.iconst 1, 1) := by decide +kernel
theorem dX5_takesStart_48 : decode cX5_takesStart 48 = .ok (.ireturn, 1) := by decide +kernel
theorem dX5_takesPayer_0 : decode cX5_takesPayer 0 = .ok (.iload_n 1, 1) := by decide +kernel
theorem dX5_takesPayer_1 : decode cX5_takesPayer 1 = .ok (.bipush 48, 2) := by decide +kernel
theorem dX5_takesPayer_3 : decode cX5_takesPayer 3 = .ok (.isub, 1) := by decide +kernel
theorem dX5_takesPayer_4 : decode cX5_takesPayer 4 = .ok (.invokestatic 62, 3) := by decide +kernel
theorem dX5_takesPayer_7 : decode cX5_takesPayer 7 = .ok (.ifCond .ne 5, 3) := by decide +kernel
theorem dX5_takesPayer_10 : decode cX5_takesPayer 10 = .ok (.iconst 0, 1) := by decide +kernel
theorem dX5_takesPayer_11 : decode cX5_takesPayer 11 = .ok (.ireturn, 1) := by decide +kernel
theorem dX5_takesPayer_12 : decode cX5_takesPayer 12 = .ok (.aload_n 0, 1) := by decide +kernel
theorem dX5_takesPayer_13 : decode cX5_takesPayer 13 = .ok (.getfield 15, 3) := by decide +kernel
theorem dX5_takesPayer_16 : decode cX5_takesPayer 16 = .ok (.aload_n 0, 1) := by decide +kernel
theorem dX5_takesPayer_17 : decode cX5_takesPayer 17 = .ok (.getfield 24, 3) := by decide +kernel
theorem dX5_takesPayer_20 : decode cX5_takesPayer 20 = .ok (.iload_n 1, 1) := by decide +kernel
theorem dX5_takesPayer_21 : decode cX5_takesPayer 21 = .ok (.bipush 48, 2) := by decide +kernel
theorem dX5_takesPayer_23 : decode cX5_takesPayer 23 = .ok (.isub, 1) := by decide +kernel
theorem dX5_takesPayer_24 : decode cX5_takesPayer 24 = .ok (.iastore, 1) := by decide +kernel
theorem dX5_takesPayer_25 : decode cX5_takesPayer 25 = .ok (.aload_n 0, 1) := by decide +kernel
theorem dX5_takesPayer_26 : decode cX5_takesPayer 26 = .ok (.iconst 2, 1) := by decide +kernel
theorem dX5_takesPayer_27 : decode cX5_takesPayer 27 = .ok (.putfield 28, 3) := by decide +kernel
theorem dX5_takesPayer_30 : decode cX5_takesPayer 30 = .ok (.iconst 1, 1) := by decide +kernel
theorem dX5_takesPayer_31 : decode cX5_takesPayer 31 = .ok (.ireturn, 1) := by decide +kernel
theorem dX5_takesRobbed_0 : decode cX5_takesRobbed 0 = .ok (.iload_n 1, 1) := by decide +kernel
theorem dX5_takesRobbed_1 : decode cX5_takesRobbed 1 = .ok (.bipush 48, 2) := by decide +kernel
theorem dX5_takesRobbed_3 : decode cX5_takesRobbed 3 = .ok (.isub, 1) := by decide +kernel
theorem dX5_takesRobbed_4 : decode cX5_takesRobbed 4 = .ok (.invokestatic 62, 3) := by decide +kernel
theorem dX5_takesRobbed_7 : decode cX5_takesRobbed 7 = .ok (.ifCond .eq 19, 3) := by decide +kernel
theorem dX5_takesRobbed_10 : decode cX5_takesRobbed 10 = .ok (.iload_n 1, 1) := by decide +kernel
theorem dX5_takesRobbed_11 : decode cX5_takesRobbed 11 = .ok (.bipush 48, 2) := by decide +kernel
theorem dX5_takesRobbed_13 : decode cX5_takesRobbed 13 = .ok (.isub, 1) := by decide +kernel
theorem dX5_takesRobbed_14 : decode cX5_takesRobbed 14 = .ok (.aload_n 0, 1) := by decide +kernel
theorem dX5_takesRobbed_15 : decode cX5_takesRobbed 15 = .ok (.getfield 15, 3) := by decide +kernel
theorem dX5_takesRobbed_18 : decode cX5_takesRobbed 18 = .ok (.aload_n 0, 1) := by decide +kernel
theorem dX5_takesRobbed_19 : decode cX5_takesRobbed 19 = .ok (.getfield 24, 3) := by decide +kernel
theorem dX5_takesRobbed_22 : decode cX5_takesRobbed 22 = .ok (.iaload, 1) := by decide +kernel
theorem dX5_takesRobbed_23 : decode cX5_takesRobbed 23 = .ok (.if_icmp .ne 5, 3) := by decide +kernel
theorem dX5_takesRobbed_26 : decode cX5_takesRobbed 26 = .ok (.iconst 0, 1) := by decide +kernel
theorem dX5_takesRobbed_27 : decode cX5_takesRobbed 27 = .ok (.ireturn, 1) := by decide +kernel
theorem dX5_takesRobbed_28 : decode cX5_takesRobbed 28 = .ok (.aload_n 0, 1) := by decide +kernel
theorem dX5_takesRobbed_29 : decode cX5_takesRobbed 29 = .ok (.getfield 18, 3) := by decide +kernel
theorem dX5_takesRobbed_32 : decode cX5_takesRobbed 32 = .ok (.aload_n 0, 1) := by decide +kernel
theorem dX5_takesRobbed_33 : decode cX5_takesRobbed 33 = .ok (.getfield 24, 3) := by decide +kernel
theorem dX5_takesRobbed_36 : decode cX5_takesRobbed 36 = .ok (.iload_n 1, 1) := by decide +kernel
theorem dX5_takesRobbed_37 : decode cX5_takesRobbed 37 = .ok (.bipush 48, 2) := by decide +kernel
theorem dX5_takesRobbed_39 : decode cX5_takesRobbed 39 = .ok (.isub, 1) := by decide +kernel
theorem dX5_takesRobbed_40 : decode cX5_takesRobbed 40 = .ok (.iastore, 1) := by decide +kernel
theorem dX5_takesRobbed_41 : decode cX5_takesRobbed 41 = .ok (.aload_n 0, 1) := by decide +kernel
theorem dX5_takesRobbed_42 : decode cX5_takesRobbed 42 = .ok (.iconst 3, 1) := by decide +kernel
theorem dX5_takesRobbed_43 : decode cX5_takesRobbed 43 = .ok (.putfield 28, 3) := by decide +kernel
theorem dX5_takesRobbed_46 : decode cX5_takesRobbed 46 = .ok (.iconst 1, 1) := by decide +kernel
theorem dX5_takesRobbed_47 : decode cX5_takesRobbed 47 = .ok (.ireturn, 1) := by decide +kernel
theorem dX5_takesFee_0 : decode cX5_takesFee 0 = .ok (.iload_n 1, 1) := by decide +kernel
theorem dX5_takesFee_1 : decode cX5_takesFee 1 = .ok (.bipush 48, 2) := by decide +kernel
theorem dX5_takesFee_3 : decode cX5_takesFee 3 = .ok (.if_icmp .lt 9, 3) := by decide +kernel
theorem dX5_takesFee_6 : decode cX5_takesFee 6 = .ok (.iload_n 1, 1) := by decide +kernel
theorem dX5_takesFee_7 : decode cX5_takesFee 7 = .ok (.bipush 57, 2) := by decide +kernel
theorem dX5_takesFee_9 : decode cX5_takesFee 9 = .ok (.if_icmp .le 5, 3) := by decide +kernel
theorem dX5_takesFee_12 : decode cX5_takesFee 12 = .ok (.iconst 0, 1) := by decide +kernel
theorem dX5_takesFee_13 : decode cX5_takesFee 13 = .ok (.ireturn, 1) := by decide +kernel
theorem dX5_takesFee_14 : decode cX5_takesFee 14 = .ok (.aload_n 0, 1) := by decide +kernel
theorem dX5_takesFee_15 : decode cX5_takesFee 15 = .ok (.getfield 21, 3) := by decide +kernel
theorem dX5_takesFee_18 : decode cX5_takesFee 18 = .ok (.aload_n 0, 1) := by decide +kernel
theorem dX5_takesFee_19 : decode cX5_takesFee 19 = .ok (.getfield 24, 3) := by decide +kernel
theorem dX5_takesFee_22 : decode cX5_takesFee 22 = .ok (.iload_n 1, 1) := by decide +kernel
theorem dX5_takesFee_23 : decode cX5_takesFee 23 = .ok (.bipush 48, 2) := by decide +kernel
theorem dX5_takesFee_25 : decode cX5_takesFee 25 = .ok (.isub, 1) := by decide +kernel
theorem dX5_takesFee_26 : decode cX5_takesFee 26 = .ok (.iastore, 1) := by decide +kernel
theorem dX5_takesFee_27 : decode cX5_takesFee 27 = .ok (.aload_n 0, 1) := by decide +kernel
theorem dX5_takesFee_28 : decode cX5_takesFee 28 = .ok (.dup, 1) := by decide +kernel
theorem dX5_takesFee_29 : decode cX5_takesFee 29 = .ok (.getfield 24, 3) := by decide +kernel
theorem dX5_takesFee_32 : decode cX5_takesFee 32 = .ok (.iconst 1, 1) := by decide +kernel
theorem dX5_takesFee_33 : decode cX5_takesFee 33 = .ok (.iadd, 1) := by decide +kernel
theorem dX5_takesFee_34 : decode cX5_takesFee 34 = .ok (.putfield 24, 3) := by decide +kernel
theorem dX5_takesFee_37 : decode cX5_takesFee 37 = .ok (.aload_n 0, 1) := by decide +kernel
theorem dX5_takesFee_38 : decode cX5_takesFee 38 = .ok (.iconst 4, 1) := by decide +kernel
theorem dX5_takesFee_39 : decode cX5_takesFee 39 = .ok (.putfield 28, 3) := by decide +kernel
theorem dX5_takesFee_42 : decode cX5_takesFee 42 = .ok (.iconst 1, 1) := by decide +kernel
theorem dX5_takesFee_43 : decode cX5_takesFee 43 = .ok (.ireturn, 1) := by decide +kernel
theorem dX5_takesComma_0 : decode cX5_takesComma 0 = .ok (.iload_n 1, 1) := by decide +kernel
theorem dX5_takesComma_1 : decode cX5_takesComma 1 = .ok (.bipush 44, 2) := by decide +kernel
theorem dX5_takesComma_3 : decode cX5_takesComma 3 = .ok (.if_icmp .ne 12, 3) := by decide +kernel
theorem dX5_takesComma_6 : decode cX5_takesComma 6 = .ok (.aload_n 0, 1) := by decide +kernel
theorem dX5_takesComma_7 : decode cX5_takesComma 7 = .ok (.getfield 24, 3) := by decide +kernel
theorem dX5_takesComma_10 : decode cX5_takesComma 10 = .ok (.bipush 8, 2) := by decide +kernel
theorem dX5_takesComma_12 : decode cX5_takesComma 12 = .ok (.if_icmp .lt 5, 3) := by decide +kernel
theorem dX5_takesComma_15 : decode cX5_takesComma 15 = .ok (.iconst 0, 1) := by decide +kernel
theorem dX5_takesComma_16 : decode cX5_takesComma 16 = .ok (.ireturn, 1) := by decide +kernel
theorem dX5_takesComma_17 : decode cX5_takesComma 17 = .ok (.aload_n 0, 1) := by decide +kernel
theorem dX5_takesComma_18 : decode cX5_takesComma 18 = .ok (.iconst 0, 1) := by decide +kernel
theorem dX5_takesComma_19 : decode cX5_takesComma 19 = .ok (.putfield 28, 3) := by decide +kernel
theorem dX5_takesComma_22 : decode cX5_takesComma 22 = .ok (.iconst 1, 1) := by decide +kernel
theorem dX5_takesComma_23 : decode cX5_takesComma 23 = .ok (.ireturn, 1) := by decide +kernel
theorem dX5_kindOf_0 : decode cX5_kindOf 0 = .ok (.iload_n 0, 1) := by decide +kernel
theorem dX5_kindOf_1 : decode cX5_kindOf 1 = .ok (.lookupswitch 51 #[(98, 45), (104, 47), (109, 49), (115, 43)], 43) := by decide +kernel
theorem dX5_kindOf_44 : decode cX5_kindOf 44 = .ok (.iconst 1, 1) := by decide +kernel
theorem dX5_kindOf_45 : decode cX5_kindOf 45 = .ok (.ireturn, 1) := by decide +kernel
theorem dX5_kindOf_46 : decode cX5_kindOf 46 = .ok (.iconst 2, 1) := by decide +kernel
theorem dX5_kindOf_47 : decode cX5_kindOf 47 = .ok (.ireturn, 1) := by decide +kernel
theorem dX5_kindOf_48 : decode cX5_kindOf 48 = .ok (.iconst 3, 1) := by decide +kernel
theorem dX5_kindOf_49 : decode cX5_kindOf 49 = .ok (.ireturn, 1) := by decide +kernel
theorem dX5_kindOf_50 : decode cX5_kindOf 50 = .ok (.iconst 4, 1) := by decide +kernel
theorem dX5_kindOf_51 : decode cX5_kindOf 51 = .ok (.ireturn, 1) := by decide +kernel
theorem dX5_kindOf_52 : decode cX5_kindOf 52 = .ok (.iconst 0, 1) := by decide +kernel
theorem dX5_kindOf_53 : decode cX5_kindOf 53 = .ok (.ireturn, 1) := by decide +kernel
theorem dX6_init_0 : decode cX6_init 0 = .ok (.aload_n 0, 1) := by decide +kernel
theorem dX6_init_1 : decode cX6_init 1 = .ok (.iload_n 1, 1) := by decide +kernel
theorem dX6_init_2 : decode cX6_init 2 = .ok (.iload_n 2, 1) := by decide +kernel
theorem dX6_init_3 : decode cX6_init 3 = .ok (.iload_n 3, 1) := by decide +kernel
theorem dX6_init_4 : decode cX6_init 4 = .ok (.invokespecial 1, 3) := by decide +kernel
theorem dX6_init_7 : decode cX6_init 7 = .ok (.return_, 1) := by decide +kernel
theorem dX6_kind_0 : decode cX6_kind 0 = .ok (.iconst 1, 1) := by decide +kernel
theorem dX6_kind_1 : decode cX6_kind 1 = .ok (.ireturn, 1) := by decide +kernel
theorem dX6_mostTaken_0 : decode cX6_mostTaken 0 = .ok (.iconst 2, 1) := by decide +kernel
theorem dX6_mostTaken_1 : decode cX6_mostTaken 1 = .ok (.ireturn, 1) := by decide +kernel
theorem dX7_init_0 : decode cX7_init 0 = .ok (.aload_n 0, 1) := by decide +kernel
theorem dX7_init_1 : decode cX7_init 1 = .ok (.invokespecial 1, 3) := by decide +kernel
theorem dX7_init_4 : decode cX7_init 4 = .ok (.aload_n 0, 1) := by decide +kernel
theorem dX7_init_5 : decode cX7_init 5 = .ok (.iload_n 1, 1) := by decide +kernel
theorem dX7_init_6 : decode cX7_init 6 = .ok (.putfield 7, 3) := by decide +kernel
theorem dX7_init_9 : decode cX7_init 9 = .ok (.aload_n 0, 1) := by decide +kernel
theorem dX7_init_10 : decode cX7_init 10 = .ok (.iload_n 2, 1) := by decide +kernel
theorem dX7_init_11 : decode cX7_init 11 = .ok (.putfield 13, 3) := by decide +kernel
theorem dX7_init_14 : decode cX7_init 14 = .ok (.aload_n 0, 1) := by decide +kernel
theorem dX7_init_15 : decode cX7_init 15 = .ok (.iload_n 3, 1) := by decide +kernel
theorem dX7_init_16 : decode cX7_init 16 = .ok (.putfield 16, 3) := by decide +kernel
theorem dX7_init_19 : decode cX7_init 19 = .ok (.return_, 1) := by decide +kernel
theorem dX7_kind_0 : decode cX7_kind 0 = .ok (.iconst 0, 1) := by decide +kernel
theorem dX7_kind_1 : decode cX7_kind 1 = .ok (.ireturn, 1) := by decide +kernel
theorem dX7_robs_0 : decode cX7_robs 0 = .ok (.iload_n 1, 1) := by decide +kernel
theorem dX7_robs_1 : decode cX7_robs 1 = .ok (.ifCond .eq 10, 3) := by decide +kernel
theorem dX7_robs_4 : decode cX7_robs 4 = .ok (.aload_n 0, 1) := by decide +kernel
theorem dX7_robs_5 : decode cX7_robs 5 = .ok (.getfield 13, 3) := by decide +kernel
theorem dX7_robs_8 : decode cX7_robs 8 = .ok (.goto 7, 3) := by decide +kernel
theorem dX7_robs_11 : decode cX7_robs 11 = .ok (.aload_n 0, 1) := by decide +kernel
theorem dX7_robs_12 : decode cX7_robs 12 = .ok (.getfield 7, 3) := by decide +kernel
theorem dX7_robs_15 : decode cX7_robs 15 = .ok (.ireturn, 1) := by decide +kernel
theorem dX7_isKeptOut_0 : decode cX7_isKeptOut 0 = .ok (.iload_n 1, 1) := by decide +kernel
theorem dX7_isKeptOut_1 : decode cX7_isKeptOut 1 = .ok (.ifCond .ne 7, 3) := by decide +kernel
theorem dX7_isKeptOut_4 : decode cX7_isKeptOut 4 = .ok (.iload_n 2, 1) := by decide +kernel
theorem dX7_isKeptOut_5 : decode cX7_isKeptOut 5 = .ok (.ifCond .le 7, 3) := by decide +kernel
theorem dX7_isKeptOut_8 : decode cX7_isKeptOut 8 = .ok (.iconst 1, 1) := by decide +kernel
theorem dX7_isKeptOut_9 : decode cX7_isKeptOut 9 = .ok (.goto 4, 3) := by decide +kernel
theorem dX7_isKeptOut_12 : decode cX7_isKeptOut 12 = .ok (.iconst 0, 1) := by decide +kernel
theorem dX7_isKeptOut_13 : decode cX7_isKeptOut 13 = .ok (.ireturn, 1) := by decide +kernel
theorem dX7_mostTaken_0 : decode cX7_mostTaken 0 = .ok (.iconst 1, 1) := by decide +kernel
theorem dX7_mostTaken_1 : decode cX7_mostTaken 1 = .ok (.ireturn, 1) := by decide +kernel
theorem dX7_likesBetter_0 : decode cX7_likesBetter 0 = .ok (.iload_n 1, 1) := by decide +kernel
theorem dX7_likesBetter_1 : decode cX7_likesBetter 1 = .ok (.iload_n 2, 1) := by decide +kernel
theorem dX7_likesBetter_2 : decode cX7_likesBetter 2 = .ok (.if_icmp .le 7, 3) := by decide +kernel
theorem dX7_likesBetter_5 : decode cX7_likesBetter 5 = .ok (.iconst 1, 1) := by decide +kernel
theorem dX7_likesBetter_6 : decode cX7_likesBetter 6 = .ok (.goto 4, 3) := by decide +kernel
theorem dX7_likesBetter_9 : decode cX7_likesBetter 9 = .ok (.iconst 0, 1) := by decide +kernel
theorem dX7_likesBetter_10 : decode cX7_likesBetter 10 = .ok (.ireturn, 1) := by decide +kernel
theorem dX8_init_0 : decode cX8_init 0 = .ok (.aload_n 0, 1) := by decide +kernel
theorem dX8_init_1 : decode cX8_init 1 = .ok (.invokespecial 3, 3) := by decide +kernel
theorem dX8_init_4 : decode cX8_init 4 = .ok (.aload_n 0, 1) := by decide +kernel
theorem dX8_init_5 : decode cX8_init 5 = .ok (.new 9, 3) := by decide +kernel
theorem dX8_init_8 : decode cX8_init 8 = .ok (.dup, 1) := by decide +kernel
theorem dX8_init_9 : decode cX8_init 9 = .ok (.invokespecial 11, 3) := by decide +kernel
theorem dX8_init_12 : decode cX8_init 12 = .ok (.putfield 12, 3) := by decide +kernel
theorem dX8_init_15 : decode cX8_init 15 = .ok (.aload_n 0, 1) := by decide +kernel
theorem dX8_init_16 : decode cX8_init 16 = .ok (.new 16, 3) := by decide +kernel
theorem dX8_init_19 : decode cX8_init 19 = .ok (.dup, 1) := by decide +kernel
theorem dX8_init_20 : decode cX8_init 20 = .ok (.invokespecial 18, 3) := by decide +kernel
theorem dX8_init_23 : decode cX8_init 23 = .ok (.putfield 19, 3) := by decide +kernel
theorem dX8_init_26 : decode cX8_init 26 = .ok (.aload_n 0, 1) := by decide +kernel
theorem dX8_init_27 : decode cX8_init 27 = .ok (.bipush 8, 2) := by decide +kernel
theorem dX8_init_29 : decode cX8_init 29 = .ok (.anewarray 23, 3) := by decide +kernel
theorem dX8_init_32 : decode cX8_init 32 = .ok (.putfield 25, 3) := by decide +kernel
theorem dX8_init_35 : decode cX8_init 35 = .ok (.aload_n 0, 1) := by decide +kernel
theorem dX8_init_36 : decode cX8_init 36 = .ok (.bipush 8, 2) := by decide +kernel
theorem dX8_init_38 : decode cX8_init 38 = .ok (.newarray .int, 2) := by decide +kernel
theorem dX8_init_40 : decode cX8_init 40 = .ok (.putfield 29, 3) := by decide +kernel
theorem dX8_init_43 : decode cX8_init 43 = .ok (.aload_n 0, 1) := by decide +kernel
theorem dX8_init_44 : decode cX8_init 44 = .ok (.bipush 8, 2) := by decide +kernel
theorem dX8_init_46 : decode cX8_init 46 = .ok (.newarray .int, 2) := by decide +kernel
theorem dX8_init_48 : decode cX8_init 48 = .ok (.putfield 33, 3) := by decide +kernel
theorem dX8_init_51 : decode cX8_init 51 = .ok (.aload_n 0, 1) := by decide +kernel
theorem dX8_init_52 : decode cX8_init 52 = .ok (.new 36, 3) := by decide +kernel
theorem dX8_init_55 : decode cX8_init 55 = .ok (.dup, 1) := by decide +kernel
theorem dX8_init_56 : decode cX8_init 56 = .ok (.invokespecial 38, 3) := by decide +kernel
theorem dX8_init_59 : decode cX8_init 59 = .ok (.putfield 39, 3) := by decide +kernel
theorem dX8_init_62 : decode cX8_init 62 = .ok (.aload_n 0, 1) := by decide +kernel
theorem dX8_init_63 : decode cX8_init 63 = .ok (.new 36, 3) := by decide +kernel
theorem dX8_init_66 : decode cX8_init 66 = .ok (.dup, 1) := by decide +kernel
theorem dX8_init_67 : decode cX8_init 67 = .ok (.invokespecial 38, 3) := by decide +kernel
theorem dX8_init_70 : decode cX8_init 70 = .ok (.putfield 43, 3) := by decide +kernel
theorem dX8_init_73 : decode cX8_init 73 = .ok (.aload_n 0, 1) := by decide +kernel
theorem dX8_init_74 : decode cX8_init 74 = .ok (.new 36, 3) := by decide +kernel
theorem dX8_init_77 : decode cX8_init 77 = .ok (.dup, 1) := by decide +kernel
theorem dX8_init_78 : decode cX8_init 78 = .ok (.invokespecial 38, 3) := by decide +kernel
theorem dX8_init_81 : decode cX8_init 81 = .ok (.putfield 46, 3) := by decide +kernel
theorem dX8_init_84 : decode cX8_init 84 = .ok (.aload_n 0, 1) := by decide +kernel
theorem dX8_init_85 : decode cX8_init 85 = .ok (.bipush 8, 2) := by decide +kernel
theorem dX8_init_87 : decode cX8_init 87 = .ok (.newarray .long, 2) := by decide +kernel
theorem dX8_init_89 : decode cX8_init 89 = .ok (.putfield 49, 3) := by decide +kernel
theorem dX8_init_92 : decode cX8_init 92 = .ok (.aload_n 0, 1) := by decide +kernel
theorem dX8_init_93 : decode cX8_init 93 = .ok (.bipush 8, 2) := by decide +kernel
theorem dX8_init_95 : decode cX8_init 95 = .ok (.newarray .int, 2) := by decide +kernel
theorem dX8_init_97 : decode cX8_init 97 = .ok (.putfield 53, 3) := by decide +kernel
theorem dX8_init_100 : decode cX8_init 100 = .ok (.aload_n 0, 1) := by decide +kernel
theorem dX8_init_101 : decode cX8_init 101 = .ok (.sipush 256, 3) := by decide +kernel
theorem dX8_init_104 : decode cX8_init 104 = .ok (.newarray .int, 2) := by decide +kernel
theorem dX8_init_106 : decode cX8_init 106 = .ok (.putfield 56, 3) := by decide +kernel
theorem dX8_init_109 : decode cX8_init 109 = .ok (.aload_n 0, 1) := by decide +kernel
theorem dX8_init_110 : decode cX8_init 110 = .ok (.sipush 256, 3) := by decide +kernel
theorem dX8_init_113 : decode cX8_init 113 = .ok (.newarray .int, 2) := by decide +kernel
theorem dX8_init_115 : decode cX8_init 115 = .ok (.putfield 59, 3) := by decide +kernel
theorem dX8_init_118 : decode cX8_init 118 = .ok (.aload_n 0, 1) := by decide +kernel
theorem dX8_init_119 : decode cX8_init 119 = .ok (.iconst 0, 1) := by decide +kernel
theorem dX8_init_120 : decode cX8_init 120 = .ok (.putfield 62, 3) := by decide +kernel
theorem dX8_init_123 : decode cX8_init 123 = .ok (.aload_n 0, 1) := by decide +kernel
theorem dX8_init_124 : decode cX8_init 124 = .ok (.iconst 0, 1) := by decide +kernel
theorem dX8_init_125 : decode cX8_init 125 = .ok (.putfield 66, 3) := by decide +kernel
theorem dX8_init_128 : decode cX8_init 128 = .ok (.aload_n 0, 1) := by decide +kernel
theorem dX8_init_129 : decode cX8_init 129 = .ok (.iconst 0, 1) := by decide +kernel
theorem dX8_init_130 : decode cX8_init 130 = .ok (.putfield 69, 3) := by decide +kernel
theorem dX8_init_133 : decode cX8_init 133 = .ok (.aload_n 0, 1) := by decide +kernel
theorem dX8_init_134 : decode cX8_init 134 = .ok (.iconst 0, 1) := by decide +kernel
theorem dX8_init_135 : decode cX8_init 135 = .ok (.putfield 72, 3) := by decide +kernel
theorem dX8_init_138 : decode cX8_init 138 = .ok (.aload_n 0, 1) := by decide +kernel
theorem dX8_init_139 : decode cX8_init 139 = .ok (.iconst 0, 1) := by decide +kernel
theorem dX8_init_140 : decode cX8_init 140 = .ok (.putfield 76, 3) := by decide +kernel
theorem dX8_init_143 : decode cX8_init 143 = .ok (.aload_n 0, 1) := by decide +kernel
theorem dX8_init_144 : decode cX8_init 144 = .ok (.iconst 0, 1) := by decide +kernel
theorem dX8_init_145 : decode cX8_init 145 = .ok (.putfield 79, 3) := by decide +kernel
theorem dX8_init_148 : decode cX8_init 148 = .ok (.iconst 0, 1) := by decide +kernel
theorem dX8_init_149 : decode cX8_init 149 = .ok (.istore_n 1, 1) := by decide +kernel
theorem dX8_init_150 : decode cX8_init 150 = .ok (.iload_n 1, 1) := by decide +kernel
theorem dX8_init_151 : decode cX8_init 151 = .ok (.bipush 8, 2) := by decide +kernel
theorem dX8_init_153 : decode cX8_init 153 = .ok (.if_icmp .ge 25, 3) := by decide +kernel
theorem dX8_init_156 : decode cX8_init 156 = .ok (.aload_n 0, 1) := by decide +kernel
theorem dX8_init_157 : decode cX8_init 157 = .ok (.getfield 25, 3) := by decide +kernel
theorem dX8_init_160 : decode cX8_init 160 = .ok (.iload_n 1, 1) := by decide +kernel
theorem dX8_init_161 : decode cX8_init 161 = .ok (.new 23, 3) := by decide +kernel
theorem dX8_init_164 : decode cX8_init 164 = .ok (.dup, 1) := by decide +kernel
theorem dX8_init_165 : decode cX8_init 165 = .ok (.iconst 0, 1) := by decide +kernel
theorem dX8_init_166 : decode cX8_init 166 = .ok (.iconst 1, 1) := by decide +kernel
theorem dX8_init_167 : decode cX8_init 167 = .ok (.iconst 0, 1) := by decide +kernel
theorem dX8_init_168 : decode cX8_init 168 = .ok (.invokespecial 82, 3) := by decide +kernel
theorem dX8_init_171 : decode cX8_init 171 = .ok (.aastore, 1) := by decide +kernel
theorem dX8_init_172 : decode cX8_init 172 = .ok (.iinc 1 1, 3) := by decide +kernel
theorem dX8_init_175 : decode cX8_init 175 = .ok (.goto (-25), 3) := by decide +kernel
theorem dX8_init_178 : decode cX8_init 178 = .ok (.return_, 1) := by decide +kernel
theorem dX8_letters_0 : decode cX8_letters 0 = .ok (.lload_n 1, 1) := by decide +kernel
theorem dX8_letters_1 : decode cX8_letters 1 = .ok (.invokestatic 85, 3) := by decide +kernel
theorem dX8_letters_4 : decode cX8_letters 4 = .ok (.istore_n 3, 1) := by decide +kernel
theorem dX8_letters_5 : decode cX8_letters 5 = .ok (.iload_n 3, 1) := by decide +kernel
theorem dX8_letters_6 : decode cX8_letters 6 = .ok (.iconst (-1), 1) := by decide +kernel
theorem dX8_letters_7 : decode cX8_letters 7 = .ok (.if_icmp .ne 6, 3) := by decide +kernel
theorem dX8_letters_10 : decode cX8_letters 10 = .ok (.bipush (-102), 2) := by decide +kernel
theorem dX8_letters_12 : decode cX8_letters 12 = .ok (.ireturn, 1) := by decide +kernel
theorem dX8_letters_13 : decode cX8_letters 13 = .ok (.aload_n 0, 1) := by decide +kernel
theorem dX8_letters_14 : decode cX8_letters 14 = .ok (.getfield 12, 3) := by decide +kernel
theorem dX8_letters_17 : decode cX8_letters 17 = .ok (.getfield 89, 3) := by decide +kernel
theorem dX8_letters_20 : decode cX8_letters 20 = .ok (.iload_n 3, 1) := by decide +kernel
theorem dX8_letters_21 : decode cX8_letters 21 = .ok (.iadd, 1) := by decide +kernel
theorem dX8_letters_22 : decode cX8_letters 22 = .ok (.bipush 40, 2) := by decide +kernel
theorem dX8_letters_24 : decode cX8_letters 24 = .ok (.if_icmp .le 6, 3) := by decide +kernel
theorem dX8_letters_27 : decode cX8_letters 27 = .ok (.bipush (-104), 2) := by decide +kernel
theorem dX8_letters_29 : decode cX8_letters 29 = .ok (.ireturn, 1) := by decide +kernel
theorem dX8_letters_30 : decode cX8_letters 30 = .ok (.iconst 0, 1) := by decide +kernel
theorem dX8_letters_31 : decode cX8_letters 31 = .ok (.istore 4, 2) := by decide +kernel
theorem dX8_letters_33 : decode cX8_letters 33 = .ok (.iload 4, 2) := by decide +kernel
theorem dX8_letters_35 : decode cX8_letters 35 = .ok (.iload_n 3, 1) := by decide +kernel
theorem dX8_letters_36 : decode cX8_letters 36 = .ok (.if_icmp .ge 43, 3) := by decide +kernel
theorem dX8_letters_39 : decode cX8_letters 39 = .ok (.aload_n 0, 1) := by decide +kernel
theorem dX8_letters_40 : decode cX8_letters 40 = .ok (.getfield 12, 3) := by decide +kernel
theorem dX8_letters_43 : decode cX8_letters 43 = .ok (.getfield 92, 3) := by decide +kernel
theorem dX8_letters_46 : decode cX8_letters 46 = .ok (.aload_n 0, 1) := by decide +kernel
theorem dX8_letters_47 : decode cX8_letters 47 = .ok (.getfield 12, 3) := by decide +kernel
theorem dX8_letters_50 : decode cX8_letters 50 = .ok (.getfield 89, 3) := by decide +kernel
theorem dX8_letters_53 : decode cX8_letters 53 = .ok (.lload_n 1, 1) := by decide +kernel
theorem dX8_letters_54 : decode cX8_letters 54 = .ok (.iload 4, 2) := by decide +kernel
theorem dX8_letters_56 : decode cX8_letters 56 = .ok (.invokestatic 95, 3) := by decide +kernel
theorem dX8_letters_59 : decode cX8_letters 59 = .ok (.iastore, 1) := by decide +kernel
theorem dX8_letters_60 : decode cX8_letters 60 = .ok (.aload_n 0, 1) := by decide +kernel
theorem dX8_letters_61 : decode cX8_letters 61 = .ok (.getfield 12, 3) := by decide +kernel
theorem dX8_letters_64 : decode cX8_letters 64 = .ok (.dup, 1) := by decide +kernel
theorem dX8_letters_65 : decode cX8_letters 65 = .ok (.getfield 89, 3) := by decide +kernel
theorem dX8_letters_68 : decode cX8_letters 68 = .ok (.iconst 1, 1) := by decide +kernel
theorem dX8_letters_69 : decode cX8_letters 69 = .ok (.iadd, 1) := by decide +kernel
theorem dX8_letters_70 : decode cX8_letters 70 = .ok (.putfield 89, 3) := by decide +kernel
theorem dX8_letters_73 : decode cX8_letters 73 = .ok (.iinc 4 1, 3) := by decide +kernel
theorem dX8_letters_76 : decode cX8_letters 76 = .ok (.goto (-43), 3) := by decide +kernel
theorem dX8_letters_79 : decode cX8_letters 79 = .ok (.aload_n 0, 1) := by decide +kernel
theorem dX8_letters_80 : decode cX8_letters 80 = .ok (.getfield 12, 3) := by decide +kernel
theorem dX8_letters_83 : decode cX8_letters 83 = .ok (.getfield 89, 3) := by decide +kernel
theorem dX8_letters_86 : decode cX8_letters 86 = .ok (.ireturn, 1) := by decide +kernel
theorem dX8_blank_0 : decode cX8_blank 0 = .ok (.aload_n 0, 1) := by decide +kernel
theorem dX8_blank_1 : decode cX8_blank 1 = .ok (.getfield 12, 3) := by decide +kernel
theorem dX8_blank_4 : decode cX8_blank 4 = .ok (.getfield 89, 3) := by decide +kernel
theorem dX8_blank_7 : decode cX8_blank 7 = .ok (.istore_n 1, 1) := by decide +kernel
theorem dX8_blank_8 : decode cX8_blank 8 = .ok (.aload_n 0, 1) := by decide +kernel
theorem dX8_blank_9 : decode cX8_blank 9 = .ok (.getfield 12, 3) := by decide +kernel
theorem dX8_blank_12 : decode cX8_blank 12 = .ok (.iconst 0, 1) := by decide +kernel
theorem dX8_blank_13 : decode cX8_blank 13 = .ok (.putfield 89, 3) := by decide +kernel
theorem dX8_blank_16 : decode cX8_blank 16 = .ok (.iload_n 1, 1) := by decide +kernel
theorem dX8_blank_17 : decode cX8_blank 17 = .ok (.ireturn, 1) := by decide +kernel
theorem dX8_fault_0 : decode cX8_fault 0 = .ok (.aload_n 0, 1) := by decide +kernel
theorem dX8_fault_1 : decode cX8_fault 1 = .ok (.getfield 19, 3) := by decide +kernel
theorem dX8_fault_4 : decode cX8_fault 4 = .ok (.aload_n 0, 1) := by decide +kernel
theorem dX8_fault_5 : decode cX8_fault 5 = .ok (.getfield 12, 3) := by decide +kernel
theorem dX8_fault_8 : decode cX8_fault 8 = .ok (.invokevirtual 99, 3) := by decide +kernel
theorem dX8_fault_11 : decode cX8_fault 11 = .ok (.ireturn, 1) := by decide +kernel
theorem dX8_contracts_0 : decode cX8_contracts 0 = .ok (.aload_n 0, 1) := by decide +kernel
theorem dX8_contracts_1 : decode cX8_contracts 1 = .ok (.getfield 19, 3) := by decide +kernel
theorem dX8_contracts_4 : decode cX8_contracts 4 = .ok (.aload_n 0, 1) := by decide +kernel
theorem dX8_contracts_5 : decode cX8_contracts 5 = .ok (.getfield 12, 3) := by decide +kernel
theorem dX8_contracts_8 : decode cX8_contracts 8 = .ok (.invokevirtual 99, 3) := by decide +kernel
theorem dX8_contracts_11 : decode cX8_contracts 11 = .ok (.aload_n 0, 1) := by decide +kernel
theorem dX8_contracts_12 : decode cX8_contracts 12 = .ok (.getfield 12, 3) := by decide +kernel
theorem dX8_contracts_15 : decode cX8_contracts 15 = .ok (.getfield 89, 3) := by decide +kernel
theorem dX8_contracts_18 : decode cX8_contracts 18 = .ok (.if_icmp .lt 13, 3) := by decide +kernel
theorem dX8_contracts_21 : decode cX8_contracts 21 = .ok (.aload_n 0, 1) := by decide +kernel
theorem dX8_contracts_22 : decode cX8_contracts 22 = .ok (.getfield 19, 3) := by decide +kernel
theorem dX8_contracts_25 : decode cX8_contracts 25 = .ok (.invokevirtual 103, 3) := by decide +kernel
theorem dX8_contracts_28 : decode cX8_contracts 28 = .ok (.ifCond .ne 6, 3) := by decide +kernel
theorem dX8_contracts_31 : decode cX8_contracts 31 = .ok (.bipush (-103), 2) := by decide +kernel
theorem dX8_contracts_33 : decode cX8_contracts 33 = .ok (.ireturn, 1) := by decide +kernel
theorem dX8_contracts_34 : decode cX8_contracts 34 = .ok (.aload_n 0, 1) := by decide +kernel
theorem dX8_contracts_35 : decode cX8_contracts 35 = .ok (.aload_n 0, 1) := by decide +kernel
theorem dX8_contracts_36 : decode cX8_contracts 36 = .ok (.getfield 19, 3) := by decide +kernel
theorem dX8_contracts_39 : decode cX8_contracts 39 = .ok (.getfield 107, 3) := by decide +kernel
theorem dX8_contracts_42 : decode cX8_contracts 42 = .ok (.putfield 62, 3) := by decide +kernel
theorem dX8_contracts_45 : decode cX8_contracts 45 = .ok (.iconst 0, 1) := by decide +kernel
theorem dX8_contracts_46 : decode cX8_contracts 46 = .ok (.istore_n 1, 1) := by decide +kernel
theorem dX8_contracts_47 : decode cX8_contracts 47 = .ok (.iload_n 1, 1) := by decide +kernel
theorem dX8_contracts_48 : decode cX8_contracts 48 = .ok (.aload_n 0, 1) := by decide +kernel
theorem dX8_contracts_49 : decode cX8_contracts 49 = .ok (.getfield 62, 3) := by decide +kernel
theorem dX8_contracts_52 : decode cX8_contracts 52 = .ok (.if_icmp .ge 75, 3) := by decide +kernel
theorem dX8_contracts_55 : decode cX8_contracts 55 = .ok (.aload_n 0, 1) := by decide +kernel
theorem dX8_contracts_56 : decode cX8_contracts 56 = .ok (.getfield 25, 3) := by decide +kernel
theorem dX8_contracts_59 : decode cX8_contracts 59 = .ok (.iload_n 1, 1) := by decide +kernel
theorem dX8_contracts_60 : decode cX8_contracts 60 = .ok (.aload_n 0, 1) := by decide +kernel
theorem dX8_contracts_61 : decode cX8_contracts 61 = .ok (.getfield 19, 3) := by decide +kernel
theorem dX8_contracts_64 : decode cX8_contracts 64 = .ok (.getfield 110, 3) := by decide +kernel
theorem dX8_contracts_67 : decode cX8_contracts 67 = .ok (.iload_n 1, 1) := by decide +kernel
theorem dX8_contracts_68 : decode cX8_contracts 68 = .ok (.iaload, 1) := by decide +kernel
theorem dX8_contracts_69 : decode cX8_contracts 69 = .ok (.aload_n 0, 1) := by decide +kernel
theorem dX8_contracts_70 : decode cX8_contracts 70 = .ok (.getfield 19, 3) := by decide +kernel
theorem dX8_contracts_73 : decode cX8_contracts 73 = .ok (.getfield 113, 3) := by decide +kernel
theorem dX8_contracts_76 : decode cX8_contracts 76 = .ok (.iload_n 1, 1) := by decide +kernel
theorem dX8_contracts_77 : decode cX8_contracts 77 = .ok (.iaload, 1) := by decide +kernel
theorem dX8_contracts_78 : decode cX8_contracts 78 = .ok (.aload_n 0, 1) := by decide +kernel
theorem dX8_contracts_79 : decode cX8_contracts 79 = .ok (.getfield 19, 3) := by decide +kernel
theorem dX8_contracts_82 : decode cX8_contracts 82 = .ok (.getfield 116, 3) := by decide +kernel
theorem dX8_contracts_85 : decode cX8_contracts 85 = .ok (.iload_n 1, 1) := by decide +kernel
theorem dX8_contracts_86 : decode cX8_contracts 86 = .ok (.iaload, 1) := by decide +kernel
theorem dX8_contracts_87 : decode cX8_contracts 87 = .ok (.aload_n 0, 1) := by decide +kernel
theorem dX8_contracts_88 : decode cX8_contracts 88 = .ok (.getfield 19, 3) := by decide +kernel
theorem dX8_contracts_91 : decode cX8_contracts 91 = .ok (.getfield 119, 3) := by decide +kernel
theorem dX8_contracts_94 : decode cX8_contracts 94 = .ok (.iload_n 1, 1) := by decide +kernel
theorem dX8_contracts_95 : decode cX8_contracts 95 = .ok (.iaload, 1) := by decide +kernel
theorem dX8_contracts_96 : decode cX8_contracts 96 = .ok (.invokestatic 122, 3) := by decide +kernel
theorem dX8_contracts_99 : decode cX8_contracts 99 = .ok (.aastore, 1) := by decide +kernel
theorem dX8_contracts_100 : decode cX8_contracts 100 = .ok (.aload_n 0, 1) := by decide +kernel
theorem dX8_contracts_101 : decode cX8_contracts 101 = .ok (.getfield 39, 3) := by decide +kernel
theorem dX8_contracts_104 : decode cX8_contracts 104 = .ok (.getfield 126, 3) := by decide +kernel
theorem dX8_contracts_107 : decode cX8_contracts 107 = .ok (.iload_n 1, 1) := by decide +kernel
theorem dX8_contracts_108 : decode cX8_contracts 108 = .ok (.iconst 1, 1) := by decide +kernel
theorem dX8_contracts_109 : decode cX8_contracts 109 = .ok (.bastore, 1) := by decide +kernel
theorem dX8_contracts_110 : decode cX8_contracts 110 = .ok (.aload_n 0, 1) := by decide +kernel
theorem dX8_contracts_111 : decode cX8_contracts 111 = .ok (.getfield 39, 3) := by decide +kernel
theorem dX8_contracts_114 : decode cX8_contracts 114 = .ok (.getfield 130, 3) := by decide +kernel
theorem dX8_contracts_117 : decode cX8_contracts 117 = .ok (.iload_n 1, 1) := by decide +kernel
theorem dX8_contracts_118 : decode cX8_contracts 118 = .ok (.bipush 10, 2) := by decide +kernel
theorem dX8_contracts_120 : decode cX8_contracts 120 = .ok (.iastore, 1) := by decide +kernel
theorem dX8_contracts_121 : decode cX8_contracts 121 = .ok (.iinc 1 1, 3) := by decide +kernel
theorem dX8_contracts_124 : decode cX8_contracts 124 = .ok (.goto (-77), 3) := by decide +kernel
theorem dX8_contracts_127 : decode cX8_contracts 127 = .ok (.aload_n 0, 1) := by decide +kernel
theorem dX8_contracts_128 : decode cX8_contracts 128 = .ok (.dup, 1) := by decide +kernel
theorem dX8_contracts_129 : decode cX8_contracts 129 = .ok (.getfield 69, 3) := by decide +kernel
theorem dX8_contracts_132 : decode cX8_contracts 132 = .ok (.iconst 1, 1) := by decide +kernel
theorem dX8_contracts_133 : decode cX8_contracts 133 = .ok (.iadd, 1) := by decide +kernel
theorem dX8_contracts_134 : decode cX8_contracts 134 = .ok (.putfield 69, 3) := by decide +kernel
theorem dX8_contracts_137 : decode cX8_contracts 137 = .ok (.aload_n 0, 1) := by decide +kernel
theorem dX8_contracts_138 : decode cX8_contracts 138 = .ok (.getfield 12, 3) := by decide +kernel
theorem dX8_contracts_141 : decode cX8_contracts 141 = .ok (.iconst 0, 1) := by decide +kernel
theorem dX8_contracts_142 : decode cX8_contracts 142 = .ok (.putfield 89, 3) := by decide +kernel
theorem dX8_contracts_145 : decode cX8_contracts 145 = .ok (.aload_n 0, 1) := by decide +kernel
theorem dX8_contracts_146 : decode cX8_contracts 146 = .ok (.getfield 62, 3) := by decide +kernel
theorem dX8_contracts_149 : decode cX8_contracts 149 = .ok (.ireturn, 1) := by decide +kernel
theorem dX8_about_0 : decode cX8_about 0 = .ok (.aload_n 0, 1) := by decide +kernel
theorem dX8_about_1 : decode cX8_about 1 = .ok (.iload_n 1, 1) := by decide +kernel
theorem dX8_about_2 : decode cX8_about 2 = .ok (.invokevirtual 133, 3) := by decide +kernel
theorem dX8_about_5 : decode cX8_about 5 = .ok (.ifCond .ne 6, 3) := by decide +kernel
theorem dX8_about_8 : decode cX8_about 8 = .ok (.bipush (-101), 2) := by decide +kernel
theorem dX8_about_10 : decode cX8_about 10 = .ok (.ireturn, 1) := by decide +kernel
theorem dX8_about_11 : decode cX8_about 11 = .ok (.aload_n 0, 1) := by decide +kernel
theorem dX8_about_12 : decode cX8_about 12 = .ok (.getfield 25, 3) := by decide +kernel
theorem dX8_about_15 : decode cX8_about 15 = .ok (.iload_n 1, 1) := by decide +kernel
theorem dX8_about_16 : decode cX8_about 16 = .ok (.aaload, 1) := by decide +kernel
theorem dX8_about_17 : decode cX8_about 17 = .ok (.astore_n 3, 1) := by decide +kernel
theorem dX8_about_18 : decode cX8_about 18 = .ok (.iload_n 2, 1) := by decide +kernel
theorem dX8_about_19 : decode cX8_about 19 = .ok (.tableswitch 80 0 5 #[37, 42, 47, 52, 57, 70], 37) := by decide +kernel
theorem dX8_about_56 : decode cX8_about 56 = .ok (.aload_n 3, 1) := by decide +kernel
theorem dX8_about_57 : decode cX8_about 57 = .ok (.invokevirtual 137, 3) := by decide +kernel
theorem dX8_about_60 : decode cX8_about 60 = .ok (.ireturn, 1) := by decide +kernel
theorem dX8_about_61 : decode cX8_about 61 = .ok (.aload_n 3, 1) := by decide +kernel
theorem dX8_about_62 : decode cX8_about 62 = .ok (.getfield 141, 3) := by decide +kernel
theorem dX8_about_65 : decode cX8_about 65 = .ok (.ireturn, 1) := by decide +kernel
theorem dX8_about_66 : decode cX8_about 66 = .ok (.aload_n 3, 1) := by decide +kernel
theorem dX8_about_67 : decode cX8_about 67 = .ok (.getfield 144, 3) := by decide +kernel
theorem dX8_about_70 : decode cX8_about 70 = .ok (.ireturn, 1) := by decide +kernel
theorem dX8_about_71 : decode cX8_about 71 = .ok (.aload_n 3, 1) := by decide +kernel
theorem dX8_about_72 : decode cX8_about 72 = .ok (.getfield 146, 3) := by decide +kernel
theorem dX8_about_75 : decode cX8_about 75 = .ok (.ireturn, 1) := by decide +kernel
theorem dX8_about_76 : decode cX8_about 76 = .ok (.aload_n 0, 1) := by decide +kernel
theorem dX8_about_77 : decode cX8_about 77 = .ok (.getfield 39, 3) := by decide +kernel
theorem dX8_about_80 : decode cX8_about 80 = .ok (.getfield 126, 3) := by decide +kernel
theorem dX8_about_83 : decode cX8_about 83 = .ok (.iload_n 1, 1) := by decide +kernel
theorem dX8_about_84 : decode cX8_about 84 = .ok (.baload, 1) := by decide +kernel
theorem dX8_about_85 : decode cX8_about 85 = .ok (.invokestatic 149, 3) := by decide +kernel
theorem dX8_about_88 : decode cX8_about 88 = .ok (.ireturn, 1) := by decide +kernel
theorem dX8_about_89 : decode cX8_about 89 = .ok (.aload_n 0, 1) := by decide +kernel
theorem dX8_about_90 : decode cX8_about 90 = .ok (.getfield 39, 3) := by decide +kernel
theorem dX8_about_93 : decode cX8_about 93 = .ok (.getfield 130, 3) := by decide +kernel
theorem dX8_about_96 : decode cX8_about 96 = .ok (.iload_n 1, 1) := by decide +kernel
end
section
theorem dX8_about_97 : decode cX8_about 97 = .ok (.iaload, 1) := by decide +kernel
theorem dX8_about_98 : decode cX8_about 98 = .ok (.ireturn, 1) := by decide +kernel
theorem dX8_about_99 : decode cX8_about 99 = .ok (.bipush (-102), 2) := by decide +kernel
theorem dX8_about_101 : decode cX8_about 101 = .ok (.ireturn, 1) := by decide +kernel
theorem dX8_as_0 : decode cX8_as 0 = .ok (.aload_n 0, 1) := by decide +kernel
theorem dX8_as_1 : decode cX8_as 1 = .ok (.iload_n 1, 1) := by decide +kernel
theorem dX8_as_2 : decode cX8_as 2 = .ok (.invokevirtual 133, 3) := by decide +kernel
theorem dX8_as_5 : decode cX8_as 5 = .ok (.ifCond .ne 6, 3) := by decide +kernel
theorem dX8_as_8 : decode cX8_as 8 = .ok (.bipush (-101), 2) := by decide +kernel
theorem dX8_as_10 : decode cX8_as 10 = .ok (.ireturn, 1) := by decide +kernel
theorem dX8_as_11 : decode cX8_as 11 = .ok (.iload_n 2, 1) := by decide +kernel
theorem dX8_as_12 : decode cX8_as 12 = .ok (.ifCond .lt 8, 3) := by decide +kernel
theorem dX8_as_15 : decode cX8_as 15 = .ok (.iload_n 2, 1) := by decide +kernel
theorem dX8_as_16 : decode cX8_as 16 = .ok (.iconst 4, 1) := by decide +kernel
theorem dX8_as_17 : decode cX8_as 17 = .ok (.if_icmp .le 6, 3) := by decide +kernel
theorem dX8_as_20 : decode cX8_as 20 = .ok (.bipush (-102), 2) := by decide +kernel
theorem dX8_as_22 : decode cX8_as 22 = .ok (.ireturn, 1) := by decide +kernel
theorem dX8_as_23 : decode cX8_as 23 = .ok (.aload_n 0, 1) := by decide +kernel
theorem dX8_as_24 : decode cX8_as 24 = .ok (.getfield 25, 3) := by decide +kernel
theorem dX8_as_27 : decode cX8_as 27 = .ok (.iload_n 1, 1) := by decide +kernel
theorem dX8_as_28 : decode cX8_as 28 = .ok (.aaload, 1) := by decide +kernel
theorem dX8_as_29 : decode cX8_as 29 = .ok (.iload_n 2, 1) := by decide +kernel
theorem dX8_as_30 : decode cX8_as 30 = .ok (.invokestatic 153, 3) := by decide +kernel
theorem dX8_as_33 : decode cX8_as 33 = .ok (.ifCond .eq 7, 3) := by decide +kernel
theorem dX8_as_36 : decode cX8_as 36 = .ok (.iload_n 1, 1) := by decide +kernel
theorem dX8_as_37 : decode cX8_as 37 = .ok (.goto 4, 3) := by decide +kernel
theorem dX8_as_40 : decode cX8_as 40 = .ok (.iconst (-1), 1) := by decide +kernel
theorem dX8_as_41 : decode cX8_as 41 = .ok (.ireturn, 1) := by decide +kernel
theorem dX8_paid_0 : decode cX8_paid 0 = .ok (.aload_n 0, 1) := by decide +kernel
theorem dX8_paid_1 : decode cX8_paid 1 = .ok (.iload_n 1, 1) := by decide +kernel
theorem dX8_paid_2 : decode cX8_paid 2 = .ok (.invokevirtual 133, 3) := by decide +kernel
theorem dX8_paid_5 : decode cX8_paid 5 = .ok (.ifCond .ne 6, 3) := by decide +kernel
theorem dX8_paid_8 : decode cX8_paid 8 = .ok (.bipush (-101), 2) := by decide +kernel
theorem dX8_paid_10 : decode cX8_paid 10 = .ok (.ireturn, 1) := by decide +kernel
theorem dX8_paid_11 : decode cX8_paid 11 = .ok (.aload_n 0, 1) := by decide +kernel
theorem dX8_paid_12 : decode cX8_paid 12 = .ok (.getfield 39, 3) := by decide +kernel
theorem dX8_paid_15 : decode cX8_paid 15 = .ok (.getfield 126, 3) := by decide +kernel
theorem dX8_paid_18 : decode cX8_paid 18 = .ok (.iload_n 1, 1) := by decide +kernel
theorem dX8_paid_19 : decode cX8_paid 19 = .ok (.baload, 1) := by decide +kernel
theorem dX8_paid_20 : decode cX8_paid 20 = .ok (.invokestatic 149, 3) := by decide +kernel
theorem dX8_paid_23 : decode cX8_paid 23 = .ok (.istore_n 3, 1) := by decide +kernel
theorem dX8_paid_24 : decode cX8_paid 24 = .ok (.aload_n 0, 1) := by decide +kernel
theorem dX8_paid_25 : decode cX8_paid 25 = .ok (.getfield 39, 3) := by decide +kernel
theorem dX8_paid_28 : decode cX8_paid 28 = .ok (.getfield 126, 3) := by decide +kernel
theorem dX8_paid_31 : decode cX8_paid 31 = .ok (.iload_n 1, 1) := by decide +kernel
theorem dX8_paid_32 : decode cX8_paid 32 = .ok (.iload_n 2, 1) := by decide +kernel
theorem dX8_paid_33 : decode cX8_paid 33 = .ok (.bastore, 1) := by decide +kernel
theorem dX8_paid_34 : decode cX8_paid 34 = .ok (.iload_n 3, 1) := by decide +kernel
theorem dX8_paid_35 : decode cX8_paid 35 = .ok (.ireturn, 1) := by decide +kernel
theorem dX8_tenths_0 : decode cX8_tenths 0 = .ok (.aload_n 0, 1) := by decide +kernel
theorem dX8_tenths_1 : decode cX8_tenths 1 = .ok (.iload_n 1, 1) := by decide +kernel
theorem dX8_tenths_2 : decode cX8_tenths 2 = .ok (.invokevirtual 133, 3) := by decide +kernel
theorem dX8_tenths_5 : decode cX8_tenths 5 = .ok (.ifCond .ne 6, 3) := by decide +kernel
theorem dX8_tenths_8 : decode cX8_tenths 8 = .ok (.bipush (-101), 2) := by decide +kernel
theorem dX8_tenths_10 : decode cX8_tenths 10 = .ok (.ireturn, 1) := by decide +kernel
theorem dX8_tenths_11 : decode cX8_tenths 11 = .ok (.iload_n 2, 1) := by decide +kernel
theorem dX8_tenths_12 : decode cX8_tenths 12 = .ok (.ifCond .lt 9, 3) := by decide +kernel
theorem dX8_tenths_15 : decode cX8_tenths 15 = .ok (.iload_n 2, 1) := by decide +kernel
theorem dX8_tenths_16 : decode cX8_tenths 16 = .ok (.bipush 10, 2) := by decide +kernel
theorem dX8_tenths_18 : decode cX8_tenths 18 = .ok (.if_icmp .le 6, 3) := by decide +kernel
theorem dX8_tenths_21 : decode cX8_tenths 21 = .ok (.bipush (-102), 2) := by decide +kernel
theorem dX8_tenths_23 : decode cX8_tenths 23 = .ok (.ireturn, 1) := by decide +kernel
theorem dX8_tenths_24 : decode cX8_tenths 24 = .ok (.aload_n 0, 1) := by decide +kernel
theorem dX8_tenths_25 : decode cX8_tenths 25 = .ok (.getfield 39, 3) := by decide +kernel
theorem dX8_tenths_28 : decode cX8_tenths 28 = .ok (.getfield 130, 3) := by decide +kernel
theorem dX8_tenths_31 : decode cX8_tenths 31 = .ok (.iload_n 1, 1) := by decide +kernel
theorem dX8_tenths_32 : decode cX8_tenths 32 = .ok (.iaload, 1) := by decide +kernel
theorem dX8_tenths_33 : decode cX8_tenths 33 = .ok (.istore_n 3, 1) := by decide +kernel
theorem dX8_tenths_34 : decode cX8_tenths 34 = .ok (.aload_n 0, 1) := by decide +kernel
theorem dX8_tenths_35 : decode cX8_tenths 35 = .ok (.getfield 39, 3) := by decide +kernel
theorem dX8_tenths_38 : decode cX8_tenths 38 = .ok (.getfield 130, 3) := by decide +kernel
theorem dX8_tenths_41 : decode cX8_tenths 41 = .ok (.iload_n 1, 1) := by decide +kernel
theorem dX8_tenths_42 : decode cX8_tenths 42 = .ok (.iload_n 2, 1) := by decide +kernel
theorem dX8_tenths_43 : decode cX8_tenths 43 = .ok (.iastore, 1) := by decide +kernel
theorem dX8_tenths_44 : decode cX8_tenths 44 = .ok (.iload_n 3, 1) := by decide +kernel
theorem dX8_tenths_45 : decode cX8_tenths 45 = .ok (.ireturn, 1) := by decide +kernel
theorem dX8_lock_0 : decode cX8_lock 0 = .ok (.iload_n 1, 1) := by decide +kernel
theorem dX8_lock_1 : decode cX8_lock 1 = .ok (.invokestatic 157, 3) := by decide +kernel
theorem dX8_lock_4 : decode cX8_lock 4 = .ok (.ifCond .ne 6, 3) := by decide +kernel
theorem dX8_lock_7 : decode cX8_lock 7 = .ok (.bipush (-101), 2) := by decide +kernel
theorem dX8_lock_9 : decode cX8_lock 9 = .ok (.ireturn, 1) := by decide +kernel
theorem dX8_lock_10 : decode cX8_lock 10 = .ok (.iload_n 2, 1) := by decide +kernel
theorem dX8_lock_11 : decode cX8_lock 11 = .ok (.ifCond .lt 9, 3) := by decide +kernel
theorem dX8_lock_14 : decode cX8_lock 14 = .ok (.iload_n 2, 1) := by decide +kernel
theorem dX8_lock_15 : decode cX8_lock 15 = .ok (.bipush 9, 2) := by decide +kernel
theorem dX8_lock_17 : decode cX8_lock 17 = .ok (.if_icmp .le 6, 3) := by decide +kernel
theorem dX8_lock_20 : decode cX8_lock 20 = .ok (.bipush (-102), 2) := by decide +kernel
theorem dX8_lock_22 : decode cX8_lock 22 = .ok (.ireturn, 1) := by decide +kernel
theorem dX8_lock_23 : decode cX8_lock 23 = .ok (.aload_n 0, 1) := by decide +kernel
theorem dX8_lock_24 : decode cX8_lock 24 = .ok (.getfield 39, 3) := by decide +kernel
theorem dX8_lock_27 : decode cX8_lock 27 = .ok (.getfield 160, 3) := by decide +kernel
theorem dX8_lock_30 : decode cX8_lock 30 = .ok (.iload_n 1, 1) := by decide +kernel
theorem dX8_lock_31 : decode cX8_lock 31 = .ok (.iaload, 1) := by decide +kernel
theorem dX8_lock_32 : decode cX8_lock 32 = .ok (.istore_n 3, 1) := by decide +kernel
theorem dX8_lock_33 : decode cX8_lock 33 = .ok (.aload_n 0, 1) := by decide +kernel
theorem dX8_lock_34 : decode cX8_lock 34 = .ok (.getfield 39, 3) := by decide +kernel
theorem dX8_lock_37 : decode cX8_lock 37 = .ok (.getfield 160, 3) := by decide +kernel
theorem dX8_lock_40 : decode cX8_lock 40 = .ok (.iload_n 1, 1) := by decide +kernel
theorem dX8_lock_41 : decode cX8_lock 41 = .ok (.iload_n 2, 1) := by decide +kernel
theorem dX8_lock_42 : decode cX8_lock 42 = .ok (.iastore, 1) := by decide +kernel
theorem dX8_lock_43 : decode cX8_lock 43 = .ok (.iload_n 3, 1) := by decide +kernel
theorem dX8_lock_44 : decode cX8_lock 44 = .ok (.ireturn, 1) := by decide +kernel
theorem dX8_dog_0 : decode cX8_dog 0 = .ok (.iload_n 1, 1) := by decide +kernel
theorem dX8_dog_1 : decode cX8_dog 1 = .ok (.invokestatic 157, 3) := by decide +kernel
theorem dX8_dog_4 : decode cX8_dog 4 = .ok (.ifCond .ne 6, 3) := by decide +kernel
theorem dX8_dog_7 : decode cX8_dog 7 = .ok (.bipush (-101), 2) := by decide +kernel
theorem dX8_dog_9 : decode cX8_dog 9 = .ok (.ireturn, 1) := by decide +kernel
theorem dX8_dog_10 : decode cX8_dog 10 = .ok (.aload_n 0, 1) := by decide +kernel
theorem dX8_dog_11 : decode cX8_dog 11 = .ok (.getfield 39, 3) := by decide +kernel
theorem dX8_dog_14 : decode cX8_dog 14 = .ok (.getfield 163, 3) := by decide +kernel
theorem dX8_dog_17 : decode cX8_dog 17 = .ok (.iload_n 1, 1) := by decide +kernel
theorem dX8_dog_18 : decode cX8_dog 18 = .ok (.baload, 1) := by decide +kernel
theorem dX8_dog_19 : decode cX8_dog 19 = .ok (.invokestatic 149, 3) := by decide +kernel
theorem dX8_dog_22 : decode cX8_dog 22 = .ok (.istore_n 3, 1) := by decide +kernel
theorem dX8_dog_23 : decode cX8_dog 23 = .ok (.aload_n 0, 1) := by decide +kernel
theorem dX8_dog_24 : decode cX8_dog 24 = .ok (.getfield 39, 3) := by decide +kernel
theorem dX8_dog_27 : decode cX8_dog 27 = .ok (.getfield 163, 3) := by decide +kernel
theorem dX8_dog_30 : decode cX8_dog 30 = .ok (.iload_n 1, 1) := by decide +kernel
theorem dX8_dog_31 : decode cX8_dog 31 = .ok (.iload_n 2, 1) := by decide +kernel
theorem dX8_dog_32 : decode cX8_dog 32 = .ok (.bastore, 1) := by decide +kernel
theorem dX8_dog_33 : decode cX8_dog 33 = .ok (.iload_n 3, 1) := by decide +kernel
theorem dX8_dog_34 : decode cX8_dog 34 = .ok (.ireturn, 1) := by decide +kernel
theorem dX8_spoon_0 : decode cX8_spoon 0 = .ok (.iload_n 1, 1) := by decide +kernel
theorem dX8_spoon_1 : decode cX8_spoon 1 = .ok (.invokestatic 157, 3) := by decide +kernel
theorem dX8_spoon_4 : decode cX8_spoon 4 = .ok (.ifCond .ne 6, 3) := by decide +kernel
theorem dX8_spoon_7 : decode cX8_spoon 7 = .ok (.bipush (-101), 2) := by decide +kernel
theorem dX8_spoon_9 : decode cX8_spoon 9 = .ok (.ireturn, 1) := by decide +kernel
theorem dX8_spoon_10 : decode cX8_spoon 10 = .ok (.iload_n 2, 1) := by decide +kernel
theorem dX8_spoon_11 : decode cX8_spoon 11 = .ok (.iconst 1, 1) := by decide +kernel
theorem dX8_spoon_12 : decode cX8_spoon 12 = .ok (.if_icmp .lt 9, 3) := by decide +kernel
theorem dX8_spoon_15 : decode cX8_spoon 15 = .ok (.iload_n 2, 1) := by decide +kernel
theorem dX8_spoon_16 : decode cX8_spoon 16 = .ok (.bipush 99, 2) := by decide +kernel
theorem dX8_spoon_18 : decode cX8_spoon 18 = .ok (.if_icmp .le 6, 3) := by decide +kernel
theorem dX8_spoon_21 : decode cX8_spoon 21 = .ok (.bipush (-102), 2) := by decide +kernel
theorem dX8_spoon_23 : decode cX8_spoon 23 = .ok (.ireturn, 1) := by decide +kernel
theorem dX8_spoon_24 : decode cX8_spoon 24 = .ok (.aload_n 0, 1) := by decide +kernel
theorem dX8_spoon_25 : decode cX8_spoon 25 = .ok (.getfield 66, 3) := by decide +kernel
theorem dX8_spoon_28 : decode cX8_spoon 28 = .ok (.bipush 8, 2) := by decide +kernel
theorem dX8_spoon_30 : decode cX8_spoon 30 = .ok (.if_icmp .lt 6, 3) := by decide +kernel
theorem dX8_spoon_33 : decode cX8_spoon 33 = .ok (.bipush (-104), 2) := by decide +kernel
theorem dX8_spoon_35 : decode cX8_spoon 35 = .ok (.ireturn, 1) := by decide +kernel
theorem dX8_spoon_36 : decode cX8_spoon 36 = .ok (.aload_n 0, 1) := by decide +kernel
theorem dX8_spoon_37 : decode cX8_spoon 37 = .ok (.getfield 29, 3) := by decide +kernel
theorem dX8_spoon_40 : decode cX8_spoon 40 = .ok (.aload_n 0, 1) := by decide +kernel
theorem dX8_spoon_41 : decode cX8_spoon 41 = .ok (.getfield 66, 3) := by decide +kernel
theorem dX8_spoon_44 : decode cX8_spoon 44 = .ok (.iload_n 2, 1) := by decide +kernel
theorem dX8_spoon_45 : decode cX8_spoon 45 = .ok (.iastore, 1) := by decide +kernel
theorem dX8_spoon_46 : decode cX8_spoon 46 = .ok (.aload_n 0, 1) := by decide +kernel
theorem dX8_spoon_47 : decode cX8_spoon 47 = .ok (.getfield 33, 3) := by decide +kernel
theorem dX8_spoon_50 : decode cX8_spoon 50 = .ok (.aload_n 0, 1) := by decide +kernel
theorem dX8_spoon_51 : decode cX8_spoon 51 = .ok (.getfield 66, 3) := by decide +kernel
theorem dX8_spoon_54 : decode cX8_spoon 54 = .ok (.iload_n 1, 1) := by decide +kernel
theorem dX8_spoon_55 : decode cX8_spoon 55 = .ok (.iastore, 1) := by decide +kernel
theorem dX8_spoon_56 : decode cX8_spoon 56 = .ok (.aload_n 0, 1) := by decide +kernel
theorem dX8_spoon_57 : decode cX8_spoon 57 = .ok (.getfield 39, 3) := by decide +kernel
theorem dX8_spoon_60 : decode cX8_spoon 60 = .ok (.getfield 166, 3) := by decide +kernel
theorem dX8_spoon_63 : decode cX8_spoon 63 = .ok (.aload_n 0, 1) := by decide +kernel
theorem dX8_spoon_64 : decode cX8_spoon 64 = .ok (.getfield 66, 3) := by decide +kernel
theorem dX8_spoon_67 : decode cX8_spoon 67 = .ok (.iload_n 1, 1) := by decide +kernel
theorem dX8_spoon_68 : decode cX8_spoon 68 = .ok (.iastore, 1) := by decide +kernel
theorem dX8_spoon_69 : decode cX8_spoon 69 = .ok (.aload_n 0, 1) := by decide +kernel
theorem dX8_spoon_70 : decode cX8_spoon 70 = .ok (.getfield 39, 3) := by decide +kernel
theorem dX8_spoon_73 : decode cX8_spoon 73 = .ok (.getfield 169, 3) := by decide +kernel
theorem dX8_spoon_76 : decode cX8_spoon 76 = .ok (.aload_n 0, 1) := by decide +kernel
theorem dX8_spoon_77 : decode cX8_spoon 77 = .ok (.getfield 66, 3) := by decide +kernel
theorem dX8_spoon_80 : decode cX8_spoon 80 = .ok (.iconst (-1), 1) := by decide +kernel
theorem dX8_spoon_81 : decode cX8_spoon 81 = .ok (.iastore, 1) := by decide +kernel
theorem dX8_spoon_82 : decode cX8_spoon 82 = .ok (.aload_n 0, 1) := by decide +kernel
theorem dX8_spoon_83 : decode cX8_spoon 83 = .ok (.dup, 1) := by decide +kernel
theorem dX8_spoon_84 : decode cX8_spoon 84 = .ok (.getfield 66, 3) := by decide +kernel
theorem dX8_spoon_87 : decode cX8_spoon 87 = .ok (.iconst 1, 1) := by decide +kernel
theorem dX8_spoon_88 : decode cX8_spoon 88 = .ok (.iadd, 1) := by decide +kernel
theorem dX8_spoon_89 : decode cX8_spoon 89 = .ok (.putfield 66, 3) := by decide +kernel
theorem dX8_spoon_92 : decode cX8_spoon 92 = .ok (.aload_n 0, 1) := by decide +kernel
theorem dX8_spoon_93 : decode cX8_spoon 93 = .ok (.getfield 66, 3) := by decide +kernel
theorem dX8_spoon_96 : decode cX8_spoon 96 = .ok (.iconst 1, 1) := by decide +kernel
theorem dX8_spoon_97 : decode cX8_spoon 97 = .ok (.isub, 1) := by decide +kernel
theorem dX8_spoon_98 : decode cX8_spoon 98 = .ok (.ireturn, 1) := by decide +kernel
theorem dX8_silver_0 : decode cX8_silver 0 = .ok (.aload_n 0, 1) := by decide +kernel
theorem dX8_silver_1 : decode cX8_silver 1 = .ok (.iload_n 1, 1) := by decide +kernel
theorem dX8_silver_2 : decode cX8_silver 2 = .ok (.invokevirtual 172, 3) := by decide +kernel
theorem dX8_silver_5 : decode cX8_silver 5 = .ok (.ifCond .ne 6, 3) := by decide +kernel
theorem dX8_silver_8 : decode cX8_silver 8 = .ok (.bipush (-101), 2) := by decide +kernel
theorem dX8_silver_10 : decode cX8_silver 10 = .ok (.ireturn, 1) := by decide +kernel
theorem dX8_silver_11 : decode cX8_silver 11 = .ok (.iload_n 2, 1) := by decide +kernel
theorem dX8_silver_12 : decode cX8_silver 12 = .ok (.tableswitch 66 0 3 #[32, 39, 46, 56], 32) := by decide +kernel
theorem dX8_silver_44 : decode cX8_silver 44 = .ok (.aload_n 0, 1) := by decide +kernel
theorem dX8_silver_45 : decode cX8_silver 45 = .ok (.getfield 29, 3) := by decide +kernel
theorem dX8_silver_48 : decode cX8_silver 48 = .ok (.iload_n 1, 1) := by decide +kernel
theorem dX8_silver_49 : decode cX8_silver 49 = .ok (.iaload, 1) := by decide +kernel
theorem dX8_silver_50 : decode cX8_silver 50 = .ok (.ireturn, 1) := by decide +kernel
theorem dX8_silver_51 : decode cX8_silver 51 = .ok (.aload_n 0, 1) := by decide +kernel
theorem dX8_silver_52 : decode cX8_silver 52 = .ok (.getfield 33, 3) := by decide +kernel
theorem dX8_silver_55 : decode cX8_silver 55 = .ok (.iload_n 1, 1) := by decide +kernel
theorem dX8_silver_56 : decode cX8_silver 56 = .ok (.iaload, 1) := by decide +kernel
theorem dX8_silver_57 : decode cX8_silver 57 = .ok (.ireturn, 1) := by decide +kernel
theorem dX8_silver_58 : decode cX8_silver 58 = .ok (.aload_n 0, 1) := by decide +kernel
theorem dX8_silver_59 : decode cX8_silver 59 = .ok (.getfield 39, 3) := by decide +kernel
theorem dX8_silver_62 : decode cX8_silver 62 = .ok (.getfield 166, 3) := by decide +kernel
theorem dX8_silver_65 : decode cX8_silver 65 = .ok (.iload_n 1, 1) := by decide +kernel
theorem dX8_silver_66 : decode cX8_silver 66 = .ok (.iaload, 1) := by decide +kernel
theorem dX8_silver_67 : decode cX8_silver 67 = .ok (.ireturn, 1) := by decide +kernel
theorem dX8_silver_68 : decode cX8_silver 68 = .ok (.aload_n 0, 1) := by decide +kernel
theorem dX8_silver_69 : decode cX8_silver 69 = .ok (.getfield 39, 3) := by decide +kernel
theorem dX8_silver_72 : decode cX8_silver 72 = .ok (.getfield 169, 3) := by decide +kernel
theorem dX8_silver_75 : decode cX8_silver 75 = .ok (.iload_n 1, 1) := by decide +kernel
theorem dX8_silver_76 : decode cX8_silver 76 = .ok (.iaload, 1) := by decide +kernel
theorem dX8_silver_77 : decode cX8_silver 77 = .ok (.ireturn, 1) := by decide +kernel
theorem dX8_silver_78 : decode cX8_silver 78 = .ok (.bipush (-102), 2) := by decide +kernel
theorem dX8_silver_80 : decode cX8_silver 80 = .ok (.ireturn, 1) := by decide +kernel
theorem dX8_worth_0 : decode cX8_worth 0 = .ok (.iload_n 1, 1) := by decide +kernel
theorem dX8_worth_1 : decode cX8_worth 1 = .ok (.invokestatic 157, 3) := by decide +kernel
theorem dX8_worth_4 : decode cX8_worth 4 = .ok (.ifCond .ne 6, 3) := by decide +kernel
theorem dX8_worth_7 : decode cX8_worth 7 = .ok (.bipush (-101), 2) := by decide +kernel
theorem dX8_worth_9 : decode cX8_worth 9 = .ok (.ireturn, 1) := by decide +kernel
theorem dX8_worth_10 : decode cX8_worth 10 = .ok (.aload_n 0, 1) := by decide +kernel
theorem dX8_worth_11 : decode cX8_worth 11 = .ok (.aload_n 0, 1) := by decide +kernel
theorem dX8_worth_12 : decode cX8_worth 12 = .ok (.getfield 39, 3) := by decide +kernel
theorem dX8_worth_15 : decode cX8_worth 15 = .ok (.iload_n 1, 1) := by decide +kernel
theorem dX8_worth_16 : decode cX8_worth 16 = .ok (.invokevirtual 175, 3) := by decide +kernel
theorem dX8_worth_19 : decode cX8_worth 19 = .ok (.ireturn, 1) := by decide +kernel
theorem dX8_month_0 : decode cX8_month 0 = .ok (.aload_n 0, 1) := by decide +kernel
theorem dX8_month_1 : decode cX8_month 1 = .ok (.getfield 62, 3) := by decide +kernel
theorem dX8_month_4 : decode cX8_month 4 = .ok (.ifCond .ne 6, 3) := by decide +kernel
theorem dX8_month_7 : decode cX8_month 7 = .ok (.bipush (-103), 2) := by decide +kernel
theorem dX8_month_9 : decode cX8_month 9 = .ok (.ireturn, 1) := by decide +kernel
theorem dX8_month_10 : decode cX8_month 10 = .ok (.iconst 0, 1) := by decide +kernel
theorem dX8_month_11 : decode cX8_month 11 = .ok (.istore_n 1, 1) := by decide +kernel
theorem dX8_month_12 : decode cX8_month 12 = .ok (.iload_n 1, 1) := by decide +kernel
theorem dX8_month_13 : decode cX8_month 13 = .ok (.aload_n 0, 1) := by decide +kernel
theorem dX8_month_14 : decode cX8_month 14 = .ok (.getfield 62, 3) := by decide +kernel
theorem dX8_month_17 : decode cX8_month 17 = .ok (.if_icmp .ge 46, 3) := by decide +kernel
theorem dX8_month_20 : decode cX8_month 20 = .ok (.aload_n 0, 1) := by decide +kernel
theorem dX8_month_21 : decode cX8_month 21 = .ok (.getfield 39, 3) := by decide +kernel
theorem dX8_month_24 : decode cX8_month 24 = .ok (.dup, 1) := by decide +kernel
theorem dX8_month_25 : decode cX8_month 25 = .ok (.getfield 179, 3) := by decide +kernel
theorem dX8_month_28 : decode cX8_month 28 = .ok (.aload_n 0, 1) := by decide +kernel
theorem dX8_month_29 : decode cX8_month 29 = .ok (.getfield 39, 3) := by decide +kernel
theorem dX8_month_32 : decode cX8_month 32 = .ok (.getfield 126, 3) := by decide +kernel
theorem dX8_month_35 : decode cX8_month 35 = .ok (.iload_n 1, 1) := by decide +kernel
theorem dX8_month_36 : decode cX8_month 36 = .ok (.baload, 1) := by decide +kernel
theorem dX8_month_37 : decode cX8_month 37 = .ok (.ifCond .eq 15, 3) := by decide +kernel
theorem dX8_month_40 : decode cX8_month 40 = .ok (.aload_n 0, 1) := by decide +kernel
theorem dX8_month_41 : decode cX8_month 41 = .ok (.getfield 25, 3) := by decide +kernel
theorem dX8_month_44 : decode cX8_month 44 = .ok (.iload_n 1, 1) := by decide +kernel
theorem dX8_month_45 : decode cX8_month 45 = .ok (.aaload, 1) := by decide +kernel
theorem dX8_month_46 : decode cX8_month 46 = .ok (.getfield 146, 3) := by decide +kernel
theorem dX8_month_49 : decode cX8_month 49 = .ok (.goto 4, 3) := by decide +kernel
theorem dX8_month_52 : decode cX8_month 52 = .ok (.iconst 0, 1) := by decide +kernel
theorem dX8_month_53 : decode cX8_month 53 = .ok (.iadd, 1) := by decide +kernel
theorem dX8_month_54 : decode cX8_month 54 = .ok (.putfield 179, 3) := by decide +kernel
theorem dX8_month_57 : decode cX8_month 57 = .ok (.iinc 1 1, 3) := by decide +kernel
theorem dX8_month_60 : decode cX8_month 60 = .ok (.goto (-48), 3) := by decide +kernel
theorem dX8_month_63 : decode cX8_month 63 = .ok (.aload_n 0, 1) := by decide +kernel
theorem dX8_month_64 : decode cX8_month 64 = .ok (.getfield 39, 3) := by decide +kernel
theorem dX8_month_67 : decode cX8_month 67 = .ok (.dup, 1) := by decide +kernel
theorem dX8_month_68 : decode cX8_month 68 = .ok (.getfield 182, 3) := by decide +kernel
theorem dX8_month_71 : decode cX8_month 71 = .ok (.iconst 1, 1) := by decide +kernel
theorem dX8_month_72 : decode cX8_month 72 = .ok (.iadd, 1) := by decide +kernel
theorem dX8_month_73 : decode cX8_month 73 = .ok (.putfield 182, 3) := by decide +kernel
theorem dX8_month_76 : decode cX8_month 76 = .ok (.aload_n 0, 1) := by decide +kernel
theorem dX8_month_77 : decode cX8_month 77 = .ok (.aload_n 0, 1) := by decide +kernel
theorem dX8_month_78 : decode cX8_month 78 = .ok (.getfield 39, 3) := by decide +kernel
theorem dX8_month_81 : decode cX8_month 81 = .ok (.iconst (-1), 1) := by decide +kernel
theorem dX8_month_82 : decode cX8_month 82 = .ok (.invokevirtual 185, 3) := by decide +kernel
theorem dX8_month_85 : decode cX8_month 85 = .ok (.ireturn, 1) := by decide +kernel
theorem dX8_where_0 : decode cX8_where 0 = .ok (.aload_n 0, 1) := by decide +kernel
theorem dX8_where_1 : decode cX8_where 1 = .ok (.iload_n 1, 1) := by decide +kernel
theorem dX8_where_2 : decode cX8_where 2 = .ok (.invokevirtual 172, 3) := by decide +kernel
theorem dX8_where_5 : decode cX8_where 5 = .ok (.ifCond .ne 6, 3) := by decide +kernel
theorem dX8_where_8 : decode cX8_where 8 = .ok (.bipush (-101), 2) := by decide +kernel
theorem dX8_where_10 : decode cX8_where 10 = .ok (.ireturn, 1) := by decide +kernel
theorem dX8_where_11 : decode cX8_where 11 = .ok (.iload_n 2, 1) := by decide +kernel
theorem dX8_where_12 : decode cX8_where 12 = .ok (.ifCond .lt 9, 3) := by decide +kernel
theorem dX8_where_15 : decode cX8_where 15 = .ok (.iload_n 2, 1) := by decide +kernel
theorem dX8_where_16 : decode cX8_where 16 = .ok (.bipush 60, 2) := by decide +kernel
theorem dX8_where_18 : decode cX8_where 18 = .ok (.if_icmp .le 6, 3) := by decide +kernel
theorem dX8_where_21 : decode cX8_where 21 = .ok (.bipush (-102), 2) := by decide +kernel
theorem dX8_where_23 : decode cX8_where 23 = .ok (.ireturn, 1) := by decide +kernel
theorem dX8_where_24 : decode cX8_where 24 = .ok (.aload_n 0, 1) := by decide +kernel
theorem dX8_where_25 : decode cX8_where 25 = .ok (.getfield 62, 3) := by decide +kernel
theorem dX8_where_28 : decode cX8_where 28 = .ok (.ifCond .ne 6, 3) := by decide +kernel
theorem dX8_where_31 : decode cX8_where 31 = .ok (.bipush (-103), 2) := by decide +kernel
theorem dX8_where_33 : decode cX8_where 33 = .ok (.ireturn, 1) := by decide +kernel
theorem dX8_where_34 : decode cX8_where 34 = .ok (.aload_n 0, 1) := by decide +kernel
theorem dX8_where_35 : decode cX8_where 35 = .ok (.getfield 46, 3) := by decide +kernel
theorem dX8_where_38 : decode cX8_where 38 = .ok (.aload_n 0, 1) := by decide +kernel
theorem dX8_where_39 : decode cX8_where 39 = .ok (.getfield 39, 3) := by decide +kernel
theorem dX8_where_42 : decode cX8_where 42 = .ok (.invokevirtual 188, 3) := by decide +kernel
theorem dX8_where_45 : decode cX8_where 45 = .ok (.iconst 0, 1) := by decide +kernel
theorem dX8_where_46 : decode cX8_where 46 = .ok (.istore_n 3, 1) := by decide +kernel
theorem dX8_where_47 : decode cX8_where 47 = .ok (.iload_n 3, 1) := by decide +kernel
theorem dX8_where_48 : decode cX8_where 48 = .ok (.iload_n 2, 1) := by decide +kernel
theorem dX8_where_49 : decode cX8_where 49 = .ok (.if_icmp .ge 19, 3) := by decide +kernel
theorem dX8_where_52 : decode cX8_where 52 = .ok (.aload_n 0, 1) := by decide +kernel
theorem dX8_where_53 : decode cX8_where 53 = .ok (.aload_n 0, 1) := by decide +kernel
theorem dX8_where_54 : decode cX8_where 54 = .ok (.getfield 46, 3) := by decide +kernel
theorem dX8_where_57 : decode cX8_where 57 = .ok (.iconst (-1), 1) := by decide +kernel
theorem dX8_where_58 : decode cX8_where 58 = .ok (.invokevirtual 185, 3) := by decide +kernel
theorem dX8_where_61 : decode cX8_where 61 = .ok (.pop, 1) := by decide +kernel
theorem dX8_where_62 : decode cX8_where 62 = .ok (.iinc 3 1, 3) := by decide +kernel
theorem dX8_where_65 : decode cX8_where 65 = .ok (.goto (-18), 3) := by decide +kernel
theorem dX8_where_68 : decode cX8_where 68 = .ok (.aload_n 0, 1) := by decide +kernel
theorem dX8_where_69 : decode cX8_where 69 = .ok (.getfield 46, 3) := by decide +kernel
theorem dX8_where_72 : decode cX8_where 72 = .ok (.getfield 166, 3) := by decide +kernel
theorem dX8_where_75 : decode cX8_where 75 = .ok (.iload_n 1, 1) := by decide +kernel
theorem dX8_where_76 : decode cX8_where 76 = .ok (.iaload, 1) := by decide +kernel
theorem dX8_where_77 : decode cX8_where 77 = .ok (.ireturn, 1) := by decide +kernel
theorem dX8_chance_0 : decode cX8_chance 0 = .ok (.aload_n 0, 1) := by decide +kernel
theorem dX8_chance_1 : decode cX8_chance 1 = .ok (.iload_n 1, 1) := by decide +kernel
theorem dX8_chance_2 : decode cX8_chance 2 = .ok (.invokevirtual 172, 3) := by decide +kernel
theorem dX8_chance_5 : decode cX8_chance 5 = .ok (.ifCond .eq 10, 3) := by decide +kernel
theorem dX8_chance_8 : decode cX8_chance 8 = .ok (.iload_n 3, 1) := by decide +kernel
theorem dX8_chance_9 : decode cX8_chance 9 = .ok (.invokestatic 157, 3) := by decide +kernel
theorem dX8_chance_12 : decode cX8_chance 12 = .ok (.ifCond .ne 7, 3) := by decide +kernel
theorem dX8_chance_15 : decode cX8_chance 15 = .ok (.ldc2_w 192, 3) := by decide +kernel
theorem dX8_chance_18 : decode cX8_chance 18 = .ok (.lreturn, 1) := by decide +kernel
theorem dX8_chance_19 : decode cX8_chance 19 = .ok (.iload_n 2, 1) := by decide +kernel
theorem dX8_chance_20 : decode cX8_chance 20 = .ok (.iconst 1, 1) := by decide +kernel
theorem dX8_chance_21 : decode cX8_chance 21 = .ok (.if_icmp .lt 19, 3) := by decide +kernel
theorem dX8_chance_24 : decode cX8_chance 24 = .ok (.iload_n 2, 1) := by decide +kernel
theorem dX8_chance_25 : decode cX8_chance 25 = .ok (.iconst 2, 1) := by decide +kernel
theorem dX8_chance_26 : decode cX8_chance 26 = .ok (.if_icmp .gt 14, 3) := by decide +kernel
theorem dX8_chance_29 : decode cX8_chance 29 = .ok (.iload 4, 2) := by decide +kernel
theorem dX8_chance_31 : decode cX8_chance 31 = .ok (.ifCond .lt 9, 3) := by decide +kernel
theorem dX8_chance_34 : decode cX8_chance 34 = .ok (.iload 4, 2) := by decide +kernel
theorem dX8_chance_36 : decode cX8_chance 36 = .ok (.iconst 1, 1) := by decide +kernel
theorem dX8_chance_37 : decode cX8_chance 37 = .ok (.if_icmp .le 7, 3) := by decide +kernel
theorem dX8_chance_40 : decode cX8_chance 40 = .ok (.ldc2_w 194, 3) := by decide +kernel
theorem dX8_chance_43 : decode cX8_chance 43 = .ok (.lreturn, 1) := by decide +kernel
theorem dX8_chance_44 : decode cX8_chance 44 = .ok (.aload_n 0, 1) := by decide +kernel
theorem dX8_chance_45 : decode cX8_chance 45 = .ok (.getfield 62, 3) := by decide +kernel
theorem dX8_chance_48 : decode cX8_chance 48 = .ok (.ifCond .ne 7, 3) := by decide +kernel
theorem dX8_chance_51 : decode cX8_chance 51 = .ok (.ldc2_w 196, 3) := by decide +kernel
theorem dX8_chance_54 : decode cX8_chance 54 = .ok (.lreturn, 1) := by decide +kernel
theorem dX8_chance_55 : decode cX8_chance 55 = .ok (.aload_n 0, 1) := by decide +kernel
theorem dX8_chance_56 : decode cX8_chance 56 = .ok (.iload_n 1, 1) := by decide +kernel
theorem dX8_chance_57 : decode cX8_chance 57 = .ok (.iload_n 2, 1) := by decide +kernel
theorem dX8_chance_58 : decode cX8_chance 58 = .ok (.invokevirtual 198, 3) := by decide +kernel
theorem dX8_chance_61 : decode cX8_chance 61 = .ok (.lstore 5, 2) := by decide +kernel
theorem dX8_chance_63 : decode cX8_chance 63 = .ok (.aload_n 0, 1) := by decide +kernel
theorem dX8_chance_64 : decode cX8_chance 64 = .ok (.getfield 49, 3) := by decide +kernel
theorem dX8_chance_67 : decode cX8_chance 67 = .ok (.iload_n 3, 1) := by decide +kernel
theorem dX8_chance_68 : decode cX8_chance 68 = .ok (.laload, 1) := by decide +kernel
theorem dX8_chance_69 : decode cX8_chance 69 = .ok (.lstore 7, 2) := by decide +kernel
theorem dX8_chance_71 : decode cX8_chance 71 = .ok (.lload 5, 2) := by decide +kernel
theorem dX8_chance_73 : decode cX8_chance 73 = .ok (.lload 7, 2) := by decide +kernel
theorem dX8_chance_75 : decode cX8_chance 75 = .ok (.invokestatic 202, 3) := by decide +kernel
theorem dX8_chance_78 : decode cX8_chance 78 = .ok (.lstore 9, 2) := by decide +kernel
theorem dX8_chance_80 : decode cX8_chance 80 = .ok (.lload 9, 2) := by decide +kernel
theorem dX8_chance_82 : decode cX8_chance 82 = .ok (.lconst 0, 1) := by decide +kernel
theorem dX8_chance_83 : decode cX8_chance 83 = .ok (.lcmp, 1) := by decide +kernel
theorem dX8_chance_84 : decode cX8_chance 84 = .ok (.ifCond .ne 7, 3) := by decide +kernel
theorem dX8_chance_87 : decode cX8_chance 87 = .ok (.ldc2_w 196, 3) := by decide +kernel
theorem dX8_chance_90 : decode cX8_chance 90 = .ok (.lreturn, 1) := by decide +kernel
theorem dX8_chance_91 : decode cX8_chance 91 = .ok (.iload 4, 2) := by decide +kernel
theorem dX8_chance_93 : decode cX8_chance 93 = .ok (.ifCond .ne 8, 3) := by decide +kernel
theorem dX8_chance_96 : decode cX8_chance 96 = .ok (.lload 7, 2) := by decide +kernel
theorem dX8_chance_98 : decode cX8_chance 98 = .ok (.goto 5, 3) := by decide +kernel
theorem dX8_chance_101 : decode cX8_chance 101 = .ok (.lload 5, 2) := by decide +kernel
theorem dX8_chance_103 : decode cX8_chance 103 = .ok (.lload 9, 2) := by decide +kernel
theorem dX8_chance_105 : decode cX8_chance 105 = .ok (.ldiv, 1) := by decide +kernel
theorem dX8_chance_106 : decode cX8_chance 106 = .ok (.lreturn, 1) := by decide +kernel
theorem dX8_whom_0 : decode cX8_whom 0 = .ok (.iload_n 1, 1) := by decide +kernel
theorem dX8_whom_1 : decode cX8_whom 1 = .ok (.invokestatic 157, 3) := by decide +kernel
theorem dX8_whom_4 : decode cX8_whom 4 = .ok (.ifCond .ne 6, 3) := by decide +kernel
theorem dX8_whom_7 : decode cX8_whom 7 = .ok (.ldc 206, 2) := by decide +kernel
theorem dX8_whom_9 : decode cX8_whom 9 = .ok (.ireturn, 1) := by decide +kernel
theorem dX8_whom_10 : decode cX8_whom 10 = .ok (.iload_n 2, 1) := by decide +kernel
theorem dX8_whom_11 : decode cX8_whom 11 = .ok (.ifCond .lt 18, 3) := by decide +kernel
theorem dX8_whom_14 : decode cX8_whom 14 = .ok (.iload_n 2, 1) := by decide +kernel
theorem dX8_whom_15 : decode cX8_whom 15 = .ok (.bipush 12, 2) := by decide +kernel
theorem dX8_whom_17 : decode cX8_whom 17 = .ok (.if_icmp .gt 12, 3) := by decide +kernel
theorem dX8_whom_20 : decode cX8_whom 20 = .ok (.iload_n 3, 1) := by decide +kernel
theorem dX8_whom_21 : decode cX8_whom 21 = .ok (.ifCond .lt 8, 3) := by decide +kernel
theorem dX8_whom_24 : decode cX8_whom 24 = .ok (.iload_n 3, 1) := by decide +kernel
theorem dX8_whom_25 : decode cX8_whom 25 = .ok (.iconst 1, 1) := by decide +kernel
theorem dX8_whom_26 : decode cX8_whom 26 = .ok (.if_icmp .le 6, 3) := by decide +kernel
theorem dX8_whom_29 : decode cX8_whom 29 = .ok (.ldc 207, 2) := by decide +kernel
theorem dX8_whom_31 : decode cX8_whom 31 = .ok (.ireturn, 1) := by decide +kernel
theorem dX8_whom_32 : decode cX8_whom 32 = .ok (.aload_n 0, 1) := by decide +kernel
theorem dX8_whom_33 : decode cX8_whom 33 = .ok (.getfield 62, 3) := by decide +kernel
theorem dX8_whom_36 : decode cX8_whom 36 = .ok (.ifCond .ne 6, 3) := by decide +kernel
theorem dX8_whom_39 : decode cX8_whom 39 = .ok (.ldc 208, 2) := by decide +kernel
theorem dX8_whom_41 : decode cX8_whom 41 = .ok (.ireturn, 1) := by decide +kernel
theorem dX8_whom_42 : decode cX8_whom 42 = .ok (.aload_n 0, 1) := by decide +kernel
theorem dX8_whom_43 : decode cX8_whom 43 = .ok (.iload_n 1, 1) := by decide +kernel
theorem dX8_whom_44 : decode cX8_whom 44 = .ok (.iload_n 2, 1) := by decide +kernel
theorem dX8_whom_45 : decode cX8_whom 45 = .ok (.invokevirtual 209, 3) := by decide +kernel
theorem dX8_whom_48 : decode cX8_whom 48 = .ok (.istore 4, 2) := by decide +kernel
theorem dX8_whom_50 : decode cX8_whom 50 = .ok (.iload_n 3, 1) := by decide +kernel
theorem dX8_whom_51 : decode cX8_whom 51 = .ok (.iconst 1, 1) := by decide +kernel
theorem dX8_whom_52 : decode cX8_whom 52 = .ok (.if_icmp .ne 8, 3) := by decide +kernel
theorem dX8_whom_55 : decode cX8_whom 55 = .ok (.iload 4, 2) := by decide +kernel
theorem dX8_whom_57 : decode cX8_whom 57 = .ok (.goto 11, 3) := by decide +kernel
theorem dX8_whom_60 : decode cX8_whom 60 = .ok (.aload_n 0, 1) := by decide +kernel
theorem dX8_whom_61 : decode cX8_whom 61 = .ok (.iload_n 1, 1) := by decide +kernel
theorem dX8_whom_62 : decode cX8_whom 62 = .ok (.iload_n 2, 1) := by decide +kernel
theorem dX8_whom_63 : decode cX8_whom 63 = .ok (.iload 4, 2) := by decide +kernel
theorem dX8_whom_65 : decode cX8_whom 65 = .ok (.invokevirtual 213, 3) := by decide +kernel
theorem dX8_whom_68 : decode cX8_whom 68 = .ok (.ireturn, 1) := by decide +kernel
theorem dX8_still_0 : decode cX8_still 0 = .ok (.aload_n 0, 1) := by decide +kernel
theorem dX8_still_1 : decode cX8_still 1 = .ok (.getfield 62, 3) := by decide +kernel
theorem dX8_still_4 : decode cX8_still 4 = .ok (.ifCond .ne 6, 3) := by decide +kernel
theorem dX8_still_7 : decode cX8_still 7 = .ok (.bipush (-103), 2) := by decide +kernel
theorem dX8_still_9 : decode cX8_still 9 = .ok (.ireturn, 1) := by decide +kernel
theorem dX8_still_10 : decode cX8_still 10 = .ok (.aload_n 0, 1) := by decide +kernel
theorem dX8_still_11 : decode cX8_still 11 = .ok (.getfield 46, 3) := by decide +kernel
theorem dX8_still_14 : decode cX8_still 14 = .ok (.aload_n 0, 1) := by decide +kernel
theorem dX8_still_15 : decode cX8_still 15 = .ok (.getfield 39, 3) := by decide +kernel
theorem dX8_still_18 : decode cX8_still 18 = .ok (.invokevirtual 188, 3) := by decide +kernel
theorem dX8_still_21 : decode cX8_still 21 = .ok (.iconst 0, 1) := by decide +kernel
theorem dX8_still_22 : decode cX8_still 22 = .ok (.istore_n 1, 1) := by decide +kernel
theorem dX8_still_23 : decode cX8_still 23 = .ok (.iload_n 1, 1) := by decide +kernel
theorem dX8_still_24 : decode cX8_still 24 = .ok (.bipush 60, 2) := by decide +kernel
theorem dX8_still_26 : decode cX8_still 26 = .ok (.if_icmp .gt 23, 3) := by decide +kernel
theorem dX8_still_29 : decode cX8_still 29 = .ok (.aload_n 0, 1) := by decide +kernel
theorem dX8_still_30 : decode cX8_still 30 = .ok (.aload_n 0, 1) := by decide +kernel
theorem dX8_still_31 : decode cX8_still 31 = .ok (.getfield 46, 3) := by decide +kernel
theorem dX8_still_34 : decode cX8_still 34 = .ok (.iconst (-1), 1) := by decide +kernel
theorem dX8_still_35 : decode cX8_still 35 = .ok (.invokevirtual 185, 3) := by decide +kernel
theorem dX8_still_38 : decode cX8_still 38 = .ok (.ifCond .ne 5, 3) := by decide +kernel
theorem dX8_still_41 : decode cX8_still 41 = .ok (.iload_n 1, 1) := by decide +kernel
theorem dX8_still_42 : decode cX8_still 42 = .ok (.ireturn, 1) := by decide +kernel
theorem dX8_still_43 : decode cX8_still 43 = .ok (.iinc 1 1, 3) := by decide +kernel
theorem dX8_still_46 : decode cX8_still 46 = .ok (.goto (-23), 3) := by decide +kernel
theorem dX8_still_49 : decode cX8_still 49 = .ok (.iconst (-1), 1) := by decide +kernel
theorem dX8_still_50 : decode cX8_still 50 = .ok (.ireturn, 1) := by decide +kernel
theorem dX8_seen_0 : decode cX8_seen 0 = .ok (.aload_n 0, 1) := by decide +kernel
theorem dX8_seen_1 : decode cX8_seen 1 = .ok (.iload_n 1, 1) := by decide +kernel
theorem dX8_seen_2 : decode cX8_seen 2 = .ok (.invokevirtual 172, 3) := by decide +kernel
theorem dX8_seen_5 : decode cX8_seen 5 = .ok (.ifCond .eq 15, 3) := by decide +kernel
theorem dX8_seen_8 : decode cX8_seen 8 = .ok (.iload_n 2, 1) := by decide +kernel
theorem dX8_seen_9 : decode cX8_seen 9 = .ok (.iconst (-1), 1) := by decide +kernel
theorem dX8_seen_10 : decode cX8_seen 10 = .ok (.if_icmp .eq 13, 3) := by decide +kernel
theorem dX8_seen_13 : decode cX8_seen 13 = .ok (.iload_n 2, 1) := by decide +kernel
theorem dX8_seen_14 : decode cX8_seen 14 = .ok (.invokestatic 157, 3) := by decide +kernel
theorem dX8_seen_17 : decode cX8_seen 17 = .ok (.ifCond .ne 6, 3) := by decide +kernel
theorem dX8_seen_20 : decode cX8_seen 20 = .ok (.bipush (-101), 2) := by decide +kernel
theorem dX8_seen_22 : decode cX8_seen 22 = .ok (.ireturn, 1) := by decide +kernel
theorem dX8_seen_23 : decode cX8_seen 23 = .ok (.aload_n 0, 1) := by decide +kernel
theorem dX8_seen_24 : decode cX8_seen 24 = .ok (.getfield 39, 3) := by decide +kernel
theorem dX8_seen_27 : decode cX8_seen 27 = .ok (.getfield 169, 3) := by decide +kernel
theorem dX8_seen_30 : decode cX8_seen 30 = .ok (.iload_n 1, 1) := by decide +kernel
theorem dX8_seen_31 : decode cX8_seen 31 = .ok (.iaload, 1) := by decide +kernel
theorem dX8_seen_32 : decode cX8_seen 32 = .ok (.istore_n 3, 1) := by decide +kernel
theorem dX8_seen_33 : decode cX8_seen 33 = .ok (.aload_n 0, 1) := by decide +kernel
theorem dX8_seen_34 : decode cX8_seen 34 = .ok (.getfield 39, 3) := by decide +kernel
theorem dX8_seen_37 : decode cX8_seen 37 = .ok (.getfield 169, 3) := by decide +kernel
theorem dX8_seen_40 : decode cX8_seen 40 = .ok (.iload_n 1, 1) := by decide +kernel
theorem dX8_seen_41 : decode cX8_seen 41 = .ok (.iload_n 2, 1) := by decide +kernel
theorem dX8_seen_42 : decode cX8_seen 42 = .ok (.iastore, 1) := by decide +kernel
theorem dX8_seen_43 : decode cX8_seen 43 = .ok (.iload_n 3, 1) := by decide +kernel
theorem dX8_seen_44 : decode cX8_seen 44 = .ok (.ireturn, 1) := by decide +kernel
theorem dX8_who_0 : decode cX8_who 0 = .ok (.aload_n 0, 1) := by decide +kernel
theorem dX8_who_1 : decode cX8_who 1 = .ok (.getfield 62, 3) := by decide +kernel
theorem dX8_who_4 : decode cX8_who 4 = .ok (.ifCond .ne 6, 3) := by decide +kernel
theorem dX8_who_7 : decode cX8_who 7 = .ok (.bipush (-103), 2) := by decide +kernel
theorem dX8_who_9 : decode cX8_who 9 = .ok (.ireturn, 1) := by decide +kernel
theorem dX8_who_10 : decode cX8_who 10 = .ok (.aload_n 0, 1) := by decide +kernel
theorem dX8_who_11 : decode cX8_who 11 = .ok (.iconst (-1), 1) := by decide +kernel
theorem dX8_who_12 : decode cX8_who 12 = .ok (.invokevirtual 217, 3) := by decide +kernel
theorem dX8_who_15 : decode cX8_who 15 = .ok (.ifCond .eq 9, 3) := by decide +kernel
theorem dX8_who_18 : decode cX8_who 18 = .ok (.sipush 256, 3) := by decide +kernel
theorem dX8_who_21 : decode cX8_who 21 = .ok (.goto 4, 3) := by decide +kernel
theorem dX8_who_24 : decode cX8_who 24 = .ok (.iconst 0, 1) := by decide +kernel
theorem dX8_who_25 : decode cX8_who 25 = .ok (.istore_n 1, 1) := by decide +kernel
theorem dX8_who_26 : decode cX8_who 26 = .ok (.iconst 0, 1) := by decide +kernel
theorem dX8_who_27 : decode cX8_who 27 = .ok (.istore_n 2, 1) := by decide +kernel
theorem dX8_who_28 : decode cX8_who 28 = .ok (.iload_n 2, 1) := by decide +kernel
theorem dX8_who_29 : decode cX8_who 29 = .ok (.aload_n 0, 1) := by decide +kernel
theorem dX8_who_30 : decode cX8_who 30 = .ok (.getfield 62, 3) := by decide +kernel
theorem dX8_who_33 : decode cX8_who 33 = .ok (.if_icmp .ge 27, 3) := by decide +kernel
theorem dX8_who_36 : decode cX8_who 36 = .ok (.iload_n 1, 1) := by decide +kernel
theorem dX8_who_37 : decode cX8_who 37 = .ok (.aload_n 0, 1) := by decide +kernel
theorem dX8_who_38 : decode cX8_who 38 = .ok (.iload_n 2, 1) := by decide +kernel
theorem dX8_who_39 : decode cX8_who 39 = .ok (.invokevirtual 217, 3) := by decide +kernel
theorem dX8_who_42 : decode cX8_who 42 = .ok (.ifCond .eq 9, 3) := by decide +kernel
theorem dX8_who_45 : decode cX8_who 45 = .ok (.iconst 1, 1) := by decide +kernel
theorem dX8_who_46 : decode cX8_who 46 = .ok (.iload_n 2, 1) := by decide +kernel
theorem dX8_who_47 : decode cX8_who 47 = .ok (.ishl, 1) := by decide +kernel
theorem dX8_who_48 : decode cX8_who 48 = .ok (.goto 4, 3) := by decide +kernel
theorem dX8_who_51 : decode cX8_who 51 = .ok (.iconst 0, 1) := by decide +kernel
theorem dX8_who_52 : decode cX8_who 52 = .ok (.ior, 1) := by decide +kernel
theorem dX8_who_53 : decode cX8_who 53 = .ok (.istore_n 1, 1) := by decide +kernel
theorem dX8_who_54 : decode cX8_who 54 = .ok (.iinc 2 1, 3) := by decide +kernel
theorem dX8_who_57 : decode cX8_who 57 = .ok (.goto (-29), 3) := by decide +kernel
theorem dX8_who_60 : decode cX8_who 60 = .ok (.iload_n 1, 1) := by decide +kernel
theorem dX8_who_61 : decode cX8_who 61 = .ok (.ireturn, 1) := by decide +kernel
theorem dX8_owes_0 : decode cX8_owes 0 = .ok (.iload_n 1, 1) := by decide +kernel
theorem dX8_owes_1 : decode cX8_owes 1 = .ok (.invokestatic 157, 3) := by decide +kernel
theorem dX8_owes_4 : decode cX8_owes 4 = .ok (.ifCond .eq 15, 3) := by decide +kernel
theorem dX8_owes_7 : decode cX8_owes 7 = .ok (.iload_n 2, 1) := by decide +kernel
theorem dX8_owes_8 : decode cX8_owes 8 = .ok (.invokestatic 157, 3) := by decide +kernel
theorem dX8_owes_11 : decode cX8_owes 11 = .ok (.ifCond .eq 8, 3) := by decide +kernel
theorem dX8_owes_14 : decode cX8_owes 14 = .ok (.iload_n 1, 1) := by decide +kernel
theorem dX8_owes_15 : decode cX8_owes 15 = .ok (.iload_n 2, 1) := by decide +kernel
theorem dX8_owes_16 : decode cX8_owes 16 = .ok (.if_icmp .ne 6, 3) := by decide +kernel
theorem dX8_owes_19 : decode cX8_owes 19 = .ok (.bipush (-101), 2) := by decide +kernel
theorem dX8_owes_21 : decode cX8_owes 21 = .ok (.ireturn, 1) := by decide +kernel
theorem dX8_owes_22 : decode cX8_owes 22 = .ok (.iconst 0, 1) := by decide +kernel
theorem dX8_owes_23 : decode cX8_owes 23 = .ok (.istore_n 3, 1) := by decide +kernel
theorem dX8_owes_24 : decode cX8_owes 24 = .ok (.iconst 0, 1) := by decide +kernel
theorem dX8_owes_25 : decode cX8_owes 25 = .ok (.istore 4, 2) := by decide +kernel
theorem dX8_owes_27 : decode cX8_owes 27 = .ok (.iload 4, 2) := by decide +kernel
theorem dX8_owes_29 : decode cX8_owes 29 = .ok (.aload_n 0, 1) := by decide +kernel
theorem dX8_owes_30 : decode cX8_owes 30 = .ok (.getfield 66, 3) := by decide +kernel
theorem dX8_owes_33 : decode cX8_owes 33 = .ok (.if_icmp .ge 48, 3) := by decide +kernel
theorem dX8_owes_36 : decode cX8_owes 36 = .ok (.iload_n 3, 1) := by decide +kernel
theorem dX8_owes_37 : decode cX8_owes 37 = .ok (.aload_n 0, 1) := by decide +kernel
theorem dX8_owes_38 : decode cX8_owes 38 = .ok (.getfield 39, 3) := by decide +kernel
theorem dX8_owes_41 : decode cX8_owes 41 = .ok (.getfield 166, 3) := by decide +kernel
theorem dX8_owes_44 : decode cX8_owes 44 = .ok (.iload 4, 2) := by decide +kernel
theorem dX8_owes_46 : decode cX8_owes 46 = .ok (.iaload, 1) := by decide +kernel
theorem dX8_owes_47 : decode cX8_owes 47 = .ok (.iload_n 1, 1) := by decide +kernel
theorem dX8_owes_48 : decode cX8_owes 48 = .ok (.if_icmp .ne 24, 3) := by decide +kernel
theorem dX8_owes_51 : decode cX8_owes 51 = .ok (.aload_n 0, 1) := by decide +kernel
theorem dX8_owes_52 : decode cX8_owes 52 = .ok (.getfield 33, 3) := by decide +kernel
theorem dX8_owes_55 : decode cX8_owes 55 = .ok (.iload 4, 2) := by decide +kernel
theorem dX8_owes_57 : decode cX8_owes 57 = .ok (.iaload, 1) := by decide +kernel
theorem dX8_owes_58 : decode cX8_owes 58 = .ok (.iload_n 2, 1) := by decide +kernel
theorem dX8_owes_59 : decode cX8_owes 59 = .ok (.if_icmp .ne 13, 3) := by decide +kernel
theorem dX8_owes_62 : decode cX8_owes 62 = .ok (.aload_n 0, 1) := by decide +kernel
theorem dX8_owes_63 : decode cX8_owes 63 = .ok (.getfield 29, 3) := by decide +kernel
theorem dX8_owes_66 : decode cX8_owes 66 = .ok (.iload 4, 2) := by decide +kernel
theorem dX8_owes_68 : decode cX8_owes 68 = .ok (.iaload, 1) := by decide +kernel
theorem dX8_owes_69 : decode cX8_owes 69 = .ok (.goto 4, 3) := by decide +kernel
theorem dX8_owes_72 : decode cX8_owes 72 = .ok (.iconst 0, 1) := by decide +kernel
theorem dX8_owes_73 : decode cX8_owes 73 = .ok (.iadd, 1) := by decide +kernel
theorem dX8_owes_74 : decode cX8_owes 74 = .ok (.istore_n 3, 1) := by decide +kernel
theorem dX8_owes_75 : decode cX8_owes 75 = .ok (.iinc 4 1, 3) := by decide +kernel
theorem dX8_owes_78 : decode cX8_owes 78 = .ok (.goto (-51), 3) := by decide +kernel
theorem dX8_owes_81 : decode cX8_owes 81 = .ok (.iload_n 3, 1) := by decide +kernel
theorem dX8_owes_82 : decode cX8_owes 82 = .ok (.ireturn, 1) := by decide +kernel
theorem dX8_fewest_0 : decode cX8_fewest 0 = .ok (.aload_n 0, 1) := by decide +kernel
theorem dX8_fewest_1 : decode cX8_fewest 1 = .ok (.invokevirtual 220, 3) := by decide +kernel
theorem dX8_fewest_4 : decode cX8_fewest 4 = .ok (.aload_n 0, 1) := by decide +kernel
theorem dX8_fewest_5 : decode cX8_fewest 5 = .ok (.getfield 56, 3) := by decide +kernel
theorem dX8_fewest_8 : decode cX8_fewest 8 = .ok (.iconst 0, 1) := by decide +kernel
theorem dX8_fewest_9 : decode cX8_fewest 9 = .ok (.iconst 0, 1) := by decide +kernel
theorem dX8_fewest_10 : decode cX8_fewest 10 = .ok (.iastore, 1) := by decide +kernel
theorem dX8_fewest_11 : decode cX8_fewest 11 = .ok (.aload_n 0, 1) := by decide +kernel
theorem dX8_fewest_12 : decode cX8_fewest 12 = .ok (.getfield 59, 3) := by decide +kernel
theorem dX8_fewest_15 : decode cX8_fewest 15 = .ok (.iconst 0, 1) := by decide +kernel
theorem dX8_fewest_16 : decode cX8_fewest 16 = .ok (.iconst 0, 1) := by decide +kernel
theorem dX8_fewest_17 : decode cX8_fewest 17 = .ok (.iastore, 1) := by decide +kernel
theorem dX8_fewest_18 : decode cX8_fewest 18 = .ok (.iconst 1, 1) := by decide +kernel
theorem dX8_fewest_19 : decode cX8_fewest 19 = .ok (.istore_n 1, 1) := by decide +kernel
theorem dX8_fewest_20 : decode cX8_fewest 20 = .ok (.iload_n 1, 1) := by decide +kernel
theorem dX8_fewest_21 : decode cX8_fewest 21 = .ok (.sipush 256, 3) := by decide +kernel
theorem dX8_fewest_24 : decode cX8_fewest 24 = .ok (.if_icmp .ge 61, 3) := by decide +kernel
theorem dX8_fewest_27 : decode cX8_fewest 27 = .ok (.aload_n 0, 1) := by decide +kernel
theorem dX8_fewest_28 : decode cX8_fewest 28 = .ok (.getfield 56, 3) := by decide +kernel
theorem dX8_fewest_31 : decode cX8_fewest 31 = .ok (.iload_n 1, 1) := by decide +kernel
theorem dX8_fewest_32 : decode cX8_fewest 32 = .ok (.aload_n 0, 1) := by decide +kernel
theorem dX8_fewest_33 : decode cX8_fewest 33 = .ok (.getfield 56, 3) := by decide +kernel
theorem dX8_fewest_36 : decode cX8_fewest 36 = .ok (.iload_n 1, 1) := by decide +kernel
theorem dX8_fewest_37 : decode cX8_fewest 37 = .ok (.iload_n 1, 1) := by decide +kernel
theorem dX8_fewest_38 : decode cX8_fewest 38 = .ok (.iconst 1, 1) := by decide +kernel
theorem dX8_fewest_39 : decode cX8_fewest 39 = .ok (.isub, 1) := by decide +kernel
theorem dX8_fewest_40 : decode cX8_fewest 40 = .ok (.iand, 1) := by decide +kernel
theorem dX8_fewest_41 : decode cX8_fewest 41 = .ok (.iaload, 1) := by decide +kernel
theorem dX8_fewest_42 : decode cX8_fewest 42 = .ok (.aload_n 0, 1) := by decide +kernel
theorem dX8_fewest_43 : decode cX8_fewest 43 = .ok (.getfield 53, 3) := by decide +kernel
theorem dX8_fewest_46 : decode cX8_fewest 46 = .ok (.iload_n 1, 1) := by decide +kernel
theorem dX8_fewest_47 : decode cX8_fewest 47 = .ok (.invokestatic 223, 3) := by decide +kernel
theorem dX8_fewest_50 : decode cX8_fewest 50 = .ok (.iaload, 1) := by decide +kernel
theorem dX8_fewest_51 : decode cX8_fewest 51 = .ok (.iadd, 1) := by decide +kernel
theorem dX8_fewest_52 : decode cX8_fewest 52 = .ok (.iastore, 1) := by decide +kernel
theorem dX8_fewest_53 : decode cX8_fewest 53 = .ok (.aload_n 0, 1) := by decide +kernel
theorem dX8_fewest_54 : decode cX8_fewest 54 = .ok (.getfield 59, 3) := by decide +kernel
theorem dX8_fewest_57 : decode cX8_fewest 57 = .ok (.iload_n 1, 1) := by decide +kernel
theorem dX8_fewest_58 : decode cX8_fewest 58 = .ok (.aload_n 0, 1) := by decide +kernel
theorem dX8_fewest_59 : decode cX8_fewest 59 = .ok (.iload_n 1, 1) := by decide +kernel
theorem dX8_fewest_60 : decode cX8_fewest 60 = .ok (.invokevirtual 229, 3) := by decide +kernel
theorem dX8_fewest_63 : decode cX8_fewest 63 = .ok (.aload_n 0, 1) := by decide +kernel
theorem dX8_fewest_64 : decode cX8_fewest 64 = .ok (.getfield 56, 3) := by decide +kernel
theorem dX8_fewest_67 : decode cX8_fewest 67 = .ok (.iload_n 1, 1) := by decide +kernel
theorem dX8_fewest_68 : decode cX8_fewest 68 = .ok (.iaload, 1) := by decide +kernel
theorem dX8_fewest_69 : decode cX8_fewest 69 = .ok (.ifCond .ne 7, 3) := by decide +kernel
theorem dX8_fewest_72 : decode cX8_fewest 72 = .ok (.iconst 1, 1) := by decide +kernel
theorem dX8_fewest_73 : decode cX8_fewest 73 = .ok (.goto 4, 3) := by decide +kernel
theorem dX8_fewest_76 : decode cX8_fewest 76 = .ok (.iconst 0, 1) := by decide +kernel
theorem dX8_fewest_77 : decode cX8_fewest 77 = .ok (.iadd, 1) := by decide +kernel
theorem dX8_fewest_78 : decode cX8_fewest 78 = .ok (.iastore, 1) := by decide +kernel
theorem dX8_fewest_79 : decode cX8_fewest 79 = .ok (.iinc 1 1, 3) := by decide +kernel
theorem dX8_fewest_82 : decode cX8_fewest 82 = .ok (.goto (-62), 3) := by decide +kernel
theorem dX8_fewest_85 : decode cX8_fewest 85 = .ok (.bipush 8, 2) := by decide +kernel
theorem dX8_fewest_87 : decode cX8_fewest 87 = .ok (.aload_n 0, 1) := by decide +kernel
theorem dX8_fewest_88 : decode cX8_fewest 88 = .ok (.getfield 59, 3) := by decide +kernel
theorem dX8_fewest_91 : decode cX8_fewest 91 = .ok (.sipush 255, 3) := by decide +kernel
theorem dX8_fewest_94 : decode cX8_fewest 94 = .ok (.iaload, 1) := by decide +kernel
theorem dX8_fewest_95 : decode cX8_fewest 95 = .ok (.isub, 1) := by decide +kernel
theorem dX8_fewest_96 : decode cX8_fewest 96 = .ok (.ireturn, 1) := by decide +kernel
theorem dX8_months_0 : decode cX8_months 0 = .ok (.iload_n 1, 1) := by decide +kernel
theorem dX8_months_1 : decode cX8_months 1 = .ok (.iconst 1, 1) := by decide +kernel
theorem dX8_months_2 : decode cX8_months 2 = .ok (.if_icmp .lt 22, 3) := by decide +kernel
theorem dX8_months_5 : decode cX8_months 5 = .ok (.iload_n 1, 1) := by decide +kernel
theorem dX8_months_6 : decode cX8_months 6 = .ok (.bipush 60, 2) := by decide +kernel
theorem dX8_months_8 : decode cX8_months 8 = .ok (.if_icmp .gt 16, 3) := by decide +kernel
theorem dX8_months_11 : decode cX8_months 11 = .ok (.iload_n 2, 1) := by decide +kernel
theorem dX8_months_12 : decode cX8_months 12 = .ok (.ifCond .lt 12, 3) := by decide +kernel
theorem dX8_months_15 : decode cX8_months 15 = .ok (.iload_n 3, 1) := by decide +kernel
theorem dX8_months_16 : decode cX8_months 16 = .ok (.ifCond .lt 8, 3) := by decide +kernel
theorem dX8_months_19 : decode cX8_months 19 = .ok (.iload_n 3, 1) := by decide +kernel
theorem dX8_months_20 : decode cX8_months 20 = .ok (.iconst 2, 1) := by decide +kernel
theorem dX8_months_21 : decode cX8_months 21 = .ok (.if_icmp .le 6, 3) := by decide +kernel
theorem dX8_months_24 : decode cX8_months 24 = .ok (.bipush (-102), 2) := by decide +kernel
theorem dX8_months_26 : decode cX8_months 26 = .ok (.ireturn, 1) := by decide +kernel
theorem dX8_months_27 : decode cX8_months 27 = .ok (.aload_n 0, 1) := by decide +kernel
theorem dX8_months_28 : decode cX8_months 28 = .ok (.getfield 62, 3) := by decide +kernel
theorem dX8_months_31 : decode cX8_months 31 = .ok (.ifCond .ne 6, 3) := by decide +kernel
theorem dX8_months_34 : decode cX8_months 34 = .ok (.bipush (-103), 2) := by decide +kernel
theorem dX8_months_36 : decode cX8_months 36 = .ok (.ireturn, 1) := by decide +kernel
theorem dX8_months_37 : decode cX8_months 37 = .ok (.aload_n 0, 1) := by decide +kernel
theorem dX8_months_38 : decode cX8_months 38 = .ok (.getfield 46, 3) := by decide +kernel
theorem dX8_months_41 : decode cX8_months 41 = .ok (.aload_n 0, 1) := by decide +kernel
theorem dX8_months_42 : decode cX8_months 42 = .ok (.getfield 39, 3) := by decide +kernel
theorem dX8_months_45 : decode cX8_months 45 = .ok (.invokevirtual 188, 3) := by decide +kernel
theorem dX8_months_48 : decode cX8_months 48 = .ok (.iload_n 2, 1) := by decide +kernel
theorem dX8_months_49 : decode cX8_months 49 = .ok (.istore 4, 2) := by decide +kernel
theorem dX8_months_51 : decode cX8_months 51 = .ok (.iconst 0, 1) := by decide +kernel
theorem dX8_months_52 : decode cX8_months 52 = .ok (.istore 5, 2) := by decide +kernel
theorem dX8_months_54 : decode cX8_months 54 = .ok (.iconst 0, 1) := by decide +kernel
theorem dX8_months_55 : decode cX8_months 55 = .ok (.istore 6, 2) := by decide +kernel
theorem dX8_months_57 : decode cX8_months 57 = .ok (.iload 6, 2) := by decide +kernel
theorem dX8_months_59 : decode cX8_months 59 = .ok (.iload_n 1, 1) := by decide +kernel
theorem dX8_months_60 : decode cX8_months 60 = .ok (.if_icmp .ge 78, 3) := by decide +kernel
theorem dX8_months_63 : decode cX8_months 63 = .ok (.iconst 0, 1) := by decide +kernel
theorem dX8_months_64 : decode cX8_months 64 = .ok (.istore 7, 2) := by decide +kernel
theorem dX8_months_66 : decode cX8_months 66 = .ok (.iload 7, 2) := by decide +kernel
theorem dX8_months_68 : decode cX8_months 68 = .ok (.aload_n 0, 1) := by decide +kernel
theorem dX8_months_69 : decode cX8_months 69 = .ok (.getfield 62, 3) := by decide +kernel
theorem dX8_months_72 : decode cX8_months 72 = .ok (.if_icmp .ge 53, 3) := by decide +kernel
theorem dX8_months_75 : decode cX8_months 75 = .ok (.iload 4, 2) := by decide +kernel
theorem dX8_months_77 : decode cX8_months 77 = .ok (.invokestatic 232, 3) := by decide +kernel
theorem dX8_months_80 : decode cX8_months 80 = .ok (.istore 4, 2) := by decide +kernel
theorem dX8_months_82 : decode cX8_months 82 = .ok (.iload 5, 2) := by decide +kernel
theorem dX8_months_84 : decode cX8_months 84 = .ok (.iload 4, 2) := by decide +kernel
theorem dX8_months_86 : decode cX8_months 86 = .ok (.invokestatic 235, 3) := by decide +kernel
theorem dX8_months_89 : decode cX8_months 89 = .ok (.aload_n 0, 1) := by decide +kernel
theorem dX8_months_90 : decode cX8_months 90 = .ok (.getfield 46, 3) := by decide +kernel
theorem dX8_months_93 : decode cX8_months 93 = .ok (.getfield 130, 3) := by decide +kernel
theorem dX8_months_96 : decode cX8_months 96 = .ok (.iload 7, 2) := by decide +kernel
theorem dX8_months_98 : decode cX8_months 98 = .ok (.iaload, 1) := by decide +kernel
theorem dX8_months_99 : decode cX8_months 99 = .ok (.if_icmp .ge 16, 3) := by decide +kernel
theorem dX8_months_102 : decode cX8_months 102 = .ok (.aload_n 0, 1) := by decide +kernel
theorem dX8_months_103 : decode cX8_months 103 = .ok (.aload_n 0, 1) := by decide +kernel
theorem dX8_months_104 : decode cX8_months 104 = .ok (.getfield 46, 3) := by decide +kernel
theorem dX8_months_107 : decode cX8_months 107 = .ok (.iload 7, 2) := by decide +kernel
theorem dX8_months_109 : decode cX8_months 109 = .ok (.invokevirtual 238, 3) := by decide +kernel
theorem dX8_months_112 : decode cX8_months 112 = .ok (.goto 4, 3) := by decide +kernel
theorem dX8_months_115 : decode cX8_months 115 = .ok (.iconst 0, 1) := by decide +kernel
theorem dX8_months_116 : decode cX8_months 116 = .ok (.iadd, 1) := by decide +kernel
theorem dX8_months_117 : decode cX8_months 117 = .ok (.istore 5, 2) := by decide +kernel
theorem dX8_months_119 : decode cX8_months 119 = .ok (.iinc 7 1, 3) := by decide +kernel
theorem dX8_months_122 : decode cX8_months 122 = .ok (.goto (-56), 3) := by decide +kernel
theorem dX8_months_125 : decode cX8_months 125 = .ok (.aload_n 0, 1) := by decide +kernel
theorem dX8_months_126 : decode cX8_months 126 = .ok (.getfield 46, 3) := by decide +kernel
theorem dX8_months_129 : decode cX8_months 129 = .ok (.invokevirtual 241, 3) := by decide +kernel
theorem dX8_months_132 : decode cX8_months 132 = .ok (.iinc 6 1, 3) := by decide +kernel
theorem dX8_months_135 : decode cX8_months 135 = .ok (.goto (-78), 3) := by decide +kernel
theorem dX8_months_138 : decode cX8_months 138 = .ok (.iload_n 3, 1) := by decide +kernel
theorem dX8_months_139 : decode cX8_months 139 = .ok (.lookupswitch 37 #[(0, 25), (1, 34)], 25) := by decide +kernel
theorem dX8_months_164 : decode cX8_months 164 = .ok (.aload_n 0, 1) := by decide +kernel
theorem dX8_months_165 : decode cX8_months 165 = .ok (.aload_n 0, 1) := by decide +kernel
theorem dX8_months_166 : decode cX8_months 166 = .ok (.getfield 46, 3) := by decide +kernel
theorem dX8_months_169 : decode cX8_months 169 = .ok (.invokevirtual 244, 3) := by decide +kernel
theorem dX8_months_172 : decode cX8_months 172 = .ok (.ireturn, 1) := by decide +kernel
theorem dX8_months_173 : decode cX8_months 173 = .ok (.iload 5, 2) := by decide +kernel
theorem dX8_months_175 : decode cX8_months 175 = .ok (.ireturn, 1) := by decide +kernel
theorem dX8_months_176 : decode cX8_months 176 = .ok (.iload 4, 2) := by decide +kernel
theorem dX8_months_178 : decode cX8_months 178 = .ok (.ireturn, 1) := by decide +kernel
theorem dX8_image_0 : decode cX8_image 0 = .ok (.aload_n 0, 1) := by decide +kernel
theorem dX8_image_1 : decode cX8_image 1 = .ok (.getfield 43, 3) := by decide +kernel
theorem dX8_image_4 : decode cX8_image 4 = .ok (.aload_n 0, 1) := by decide +kernel
theorem dX8_image_5 : decode cX8_image 5 = .ok (.getfield 39, 3) := by decide +kernel
theorem dX8_image_8 : decode cX8_image 8 = .ok (.invokevirtual 188, 3) := by decide +kernel
theorem dX8_image_11 : decode cX8_image 11 = .ok (.aload_n 0, 1) := by decide +kernel
theorem dX8_image_12 : decode cX8_image 12 = .ok (.iconst 1, 1) := by decide +kernel
theorem dX8_image_13 : decode cX8_image 13 = .ok (.putfield 72, 3) := by decide +kernel
theorem dX8_image_16 : decode cX8_image 16 = .ok (.aload_n 0, 1) := by decide +kernel
theorem dX8_image_17 : decode cX8_image 17 = .ok (.aload_n 0, 1) := by decide +kernel
theorem dX8_image_18 : decode cX8_image 18 = .ok (.getfield 69, 3) := by decide +kernel
theorem dX8_image_21 : decode cX8_image 21 = .ok (.putfield 76, 3) := by decide +kernel
theorem dX8_image_24 : decode cX8_image 24 = .ok (.aload_n 0, 1) := by decide +kernel
theorem dX8_image_25 : decode cX8_image 25 = .ok (.aload_n 0, 1) := by decide +kernel
theorem dX8_image_26 : decode cX8_image 26 = .ok (.getfield 66, 3) := by decide +kernel
theorem dX8_image_29 : decode cX8_image 29 = .ok (.putfield 79, 3) := by decide +kernel
theorem dX8_image_32 : decode cX8_image 32 = .ok (.aload_n 0, 1) := by decide +kernel
theorem dX8_image_33 : decode cX8_image 33 = .ok (.getfield 66, 3) := by decide +kernel
theorem dX8_image_36 : decode cX8_image 36 = .ok (.ireturn, 1) := by decide +kernel
theorem dX8_restore_0 : decode cX8_restore 0 = .ok (.aload_n 0, 1) := by decide +kernel
theorem dX8_restore_1 : decode cX8_restore 1 = .ok (.getfield 72, 3) := by decide +kernel
theorem dX8_restore_4 : decode cX8_restore 4 = .ok (.ifCond .eq 25, 3) := by decide +kernel
theorem dX8_restore_7 : decode cX8_restore 7 = .ok (.aload_n 0, 1) := by decide +kernel
theorem dX8_restore_8 : decode cX8_restore 8 = .ok (.getfield 76, 3) := by decide +kernel
theorem dX8_restore_11 : decode cX8_restore 11 = .ok (.aload_n 0, 1) := by decide +kernel
theorem dX8_restore_12 : decode cX8_restore 12 = .ok (.getfield 69, 3) := by decide +kernel
theorem dX8_restore_15 : decode cX8_restore 15 = .ok (.if_icmp .ne 14, 3) := by decide +kernel
end
section
theorem dX8_restore_18 : decode cX8_restore 18 = .ok (.aload_n 0, 1) := by decide +kernel
theorem dX8_restore_19 : decode cX8_restore 19 = .ok (.getfield 79, 3) := by decide +kernel
theorem dX8_restore_22 : decode cX8_restore 22 = .ok (.aload_n 0, 1) := by decide +kernel
theorem dX8_restore_23 : decode cX8_restore 23 = .ok (.getfield 66, 3) := by decide +kernel
theorem dX8_restore_26 : decode cX8_restore 26 = .ok (.if_icmp .eq 6, 3) := by decide +kernel
theorem dX8_restore_29 : decode cX8_restore 29 = .ok (.bipush (-103), 2) := by decide +kernel
theorem dX8_restore_31 : decode cX8_restore 31 = .ok (.ireturn, 1) := by decide +kernel
theorem dX8_restore_32 : decode cX8_restore 32 = .ok (.aload_n 0, 1) := by decide +kernel
theorem dX8_restore_33 : decode cX8_restore 33 = .ok (.getfield 39, 3) := by decide +kernel
theorem dX8_restore_36 : decode cX8_restore 36 = .ok (.aload_n 0, 1) := by decide +kernel
theorem dX8_restore_37 : decode cX8_restore 37 = .ok (.getfield 43, 3) := by decide +kernel
theorem dX8_restore_40 : decode cX8_restore 40 = .ok (.invokevirtual 188, 3) := by decide +kernel
theorem dX8_restore_43 : decode cX8_restore 43 = .ok (.aload_n 0, 1) := by decide +kernel
theorem dX8_restore_44 : decode cX8_restore 44 = .ok (.getfield 66, 3) := by decide +kernel
theorem dX8_restore_47 : decode cX8_restore 47 = .ok (.ireturn, 1) := by decide +kernel
theorem dX8_count_0 : decode cX8_count 0 = .ok (.iload_n 1, 1) := by decide +kernel
theorem dX8_count_1 : decode cX8_count 1 = .ok (.tableswitch 87 0 6 #[43, 48, 53, 61, 69, 77, 82], 43) := by decide +kernel
theorem dX8_count_44 : decode cX8_count 44 = .ok (.aload_n 0, 1) := by decide +kernel
theorem dX8_count_45 : decode cX8_count 45 = .ok (.getfield 62, 3) := by decide +kernel
theorem dX8_count_48 : decode cX8_count 48 = .ok (.ireturn, 1) := by decide +kernel
theorem dX8_count_49 : decode cX8_count 49 = .ok (.aload_n 0, 1) := by decide +kernel
theorem dX8_count_50 : decode cX8_count 50 = .ok (.getfield 66, 3) := by decide +kernel
theorem dX8_count_53 : decode cX8_count 53 = .ok (.ireturn, 1) := by decide +kernel
theorem dX8_count_54 : decode cX8_count 54 = .ok (.aload_n 0, 1) := by decide +kernel
theorem dX8_count_55 : decode cX8_count 55 = .ok (.getfield 39, 3) := by decide +kernel
theorem dX8_count_58 : decode cX8_count 58 = .ok (.getfield 182, 3) := by decide +kernel
theorem dX8_count_61 : decode cX8_count 61 = .ok (.ireturn, 1) := by decide +kernel
theorem dX8_count_62 : decode cX8_count 62 = .ok (.aload_n 0, 1) := by decide +kernel
theorem dX8_count_63 : decode cX8_count 63 = .ok (.getfield 39, 3) := by decide +kernel
theorem dX8_count_66 : decode cX8_count 66 = .ok (.getfield 179, 3) := by decide +kernel
theorem dX8_count_69 : decode cX8_count 69 = .ok (.ireturn, 1) := by decide +kernel
theorem dX8_count_70 : decode cX8_count 70 = .ok (.aload_n 0, 1) := by decide +kernel
theorem dX8_count_71 : decode cX8_count 71 = .ok (.getfield 12, 3) := by decide +kernel
theorem dX8_count_74 : decode cX8_count 74 = .ok (.getfield 89, 3) := by decide +kernel
theorem dX8_count_77 : decode cX8_count 77 = .ok (.ireturn, 1) := by decide +kernel
theorem dX8_count_78 : decode cX8_count 78 = .ok (.aload_n 0, 1) := by decide +kernel
theorem dX8_count_79 : decode cX8_count 79 = .ok (.invokevirtual 248, 3) := by decide +kernel
theorem dX8_count_82 : decode cX8_count 82 = .ok (.ireturn, 1) := by decide +kernel
theorem dX8_count_83 : decode cX8_count 83 = .ok (.aload_n 0, 1) := by decide +kernel
theorem dX8_count_84 : decode cX8_count 84 = .ok (.getfield 69, 3) := by decide +kernel
theorem dX8_count_87 : decode cX8_count 87 = .ok (.ireturn, 1) := by decide +kernel
theorem dX8_count_88 : decode cX8_count 88 = .ok (.bipush (-102), 2) := by decide +kernel
theorem dX8_count_90 : decode cX8_count 90 = .ok (.ireturn, 1) := by decide +kernel
theorem dX8_digest_0 : decode cX8_digest 0 = .ok (.aload_n 0, 1) := by decide +kernel
theorem dX8_digest_1 : decode cX8_digest 1 = .ok (.ldc2_w 251, 3) := by decide +kernel
theorem dX8_digest_4 : decode cX8_digest 4 = .ok (.invokevirtual 253, 3) := by decide +kernel
theorem dX8_digest_7 : decode cX8_digest 7 = .ok (.lstore_n 1, 1) := by decide +kernel
theorem dX8_digest_8 : decode cX8_digest 8 = .ok (.aload_n 0, 1) := by decide +kernel
theorem dX8_digest_9 : decode cX8_digest 9 = .ok (.lload_n 1, 1) := by decide +kernel
theorem dX8_digest_10 : decode cX8_digest 10 = .ok (.invokevirtual 257, 3) := by decide +kernel
theorem dX8_digest_13 : decode cX8_digest 13 = .ok (.lstore_n 1, 1) := by decide +kernel
theorem dX8_digest_14 : decode cX8_digest 14 = .ok (.aload_n 0, 1) := by decide +kernel
theorem dX8_digest_15 : decode cX8_digest 15 = .ok (.lload_n 1, 1) := by decide +kernel
theorem dX8_digest_16 : decode cX8_digest 16 = .ok (.invokevirtual 260, 3) := by decide +kernel
theorem dX8_digest_19 : decode cX8_digest 19 = .ok (.lstore_n 1, 1) := by decide +kernel
theorem dX8_digest_20 : decode cX8_digest 20 = .ok (.lload_n 1, 1) := by decide +kernel
theorem dX8_digest_21 : decode cX8_digest 21 = .ok (.aload_n 0, 1) := by decide +kernel
theorem dX8_digest_22 : decode cX8_digest 22 = .ok (.invokevirtual 263, 3) := by decide +kernel
theorem dX8_digest_25 : decode cX8_digest 25 = .ok (.i2l, 1) := by decide +kernel
theorem dX8_digest_26 : decode cX8_digest 26 = .ok (.invokestatic 266, 3) := by decide +kernel
theorem dX8_digest_29 : decode cX8_digest 29 = .ok (.lstore_n 1, 1) := by decide +kernel
theorem dX8_digest_30 : decode cX8_digest 30 = .ok (.aload_n 0, 1) := by decide +kernel
theorem dX8_digest_31 : decode cX8_digest 31 = .ok (.getfield 62, 3) := by decide +kernel
theorem dX8_digest_34 : decode cX8_digest 34 = .ok (.ifCond .le 9, 3) := by decide +kernel
theorem dX8_digest_37 : decode cX8_digest 37 = .ok (.aload_n 0, 1) := by decide +kernel
theorem dX8_digest_38 : decode cX8_digest 38 = .ok (.lload_n 1, 1) := by decide +kernel
theorem dX8_digest_39 : decode cX8_digest 39 = .ok (.invokevirtual 269, 3) := by decide +kernel
theorem dX8_digest_42 : decode cX8_digest 42 = .ok (.lstore_n 1, 1) := by decide +kernel
theorem dX8_digest_43 : decode cX8_digest 43 = .ok (.iconst 0, 1) := by decide +kernel
theorem dX8_digest_44 : decode cX8_digest 44 = .ok (.istore_n 3, 1) := by decide +kernel
theorem dX8_digest_45 : decode cX8_digest 45 = .ok (.iload_n 3, 1) := by decide +kernel
theorem dX8_digest_46 : decode cX8_digest 46 = .ok (.aload_n 0, 1) := by decide +kernel
theorem dX8_digest_47 : decode cX8_digest 47 = .ok (.getfield 12, 3) := by decide +kernel
theorem dX8_digest_50 : decode cX8_digest 50 = .ok (.getfield 89, 3) := by decide +kernel
theorem dX8_digest_53 : decode cX8_digest 53 = .ok (.if_icmp .ge 24, 3) := by decide +kernel
theorem dX8_digest_56 : decode cX8_digest 56 = .ok (.lload_n 1, 1) := by decide +kernel
theorem dX8_digest_57 : decode cX8_digest 57 = .ok (.aload_n 0, 1) := by decide +kernel
theorem dX8_digest_58 : decode cX8_digest 58 = .ok (.getfield 12, 3) := by decide +kernel
theorem dX8_digest_61 : decode cX8_digest 61 = .ok (.getfield 92, 3) := by decide +kernel
theorem dX8_digest_64 : decode cX8_digest 64 = .ok (.iload_n 3, 1) := by decide +kernel
theorem dX8_digest_65 : decode cX8_digest 65 = .ok (.iaload, 1) := by decide +kernel
theorem dX8_digest_66 : decode cX8_digest 66 = .ok (.i2l, 1) := by decide +kernel
theorem dX8_digest_67 : decode cX8_digest 67 = .ok (.invokestatic 266, 3) := by decide +kernel
theorem dX8_digest_70 : decode cX8_digest 70 = .ok (.lstore_n 1, 1) := by decide +kernel
theorem dX8_digest_71 : decode cX8_digest 71 = .ok (.iinc 3 1, 3) := by decide +kernel
theorem dX8_digest_74 : decode cX8_digest 74 = .ok (.goto (-29), 3) := by decide +kernel
theorem dX8_digest_77 : decode cX8_digest 77 = .ok (.iconst 0, 1) := by decide +kernel
theorem dX8_digest_78 : decode cX8_digest 78 = .ok (.istore_n 3, 1) := by decide +kernel
theorem dX8_digest_79 : decode cX8_digest 79 = .ok (.iload_n 3, 1) := by decide +kernel
theorem dX8_digest_80 : decode cX8_digest 80 = .ok (.bipush 6, 2) := by decide +kernel
theorem dX8_digest_82 : decode cX8_digest 82 = .ok (.if_icmp .gt 20, 3) := by decide +kernel
theorem dX8_digest_85 : decode cX8_digest 85 = .ok (.lload_n 1, 1) := by decide +kernel
theorem dX8_digest_86 : decode cX8_digest 86 = .ok (.aload_n 0, 1) := by decide +kernel
theorem dX8_digest_87 : decode cX8_digest 87 = .ok (.iload_n 3, 1) := by decide +kernel
theorem dX8_digest_88 : decode cX8_digest 88 = .ok (.invokevirtual 272, 3) := by decide +kernel
theorem dX8_digest_91 : decode cX8_digest 91 = .ok (.i2l, 1) := by decide +kernel
theorem dX8_digest_92 : decode cX8_digest 92 = .ok (.invokestatic 266, 3) := by decide +kernel
theorem dX8_digest_95 : decode cX8_digest 95 = .ok (.lstore_n 1, 1) := by decide +kernel
theorem dX8_digest_96 : decode cX8_digest 96 = .ok (.iinc 3 1, 3) := by decide +kernel
theorem dX8_digest_99 : decode cX8_digest 99 = .ok (.goto (-20), 3) := by decide +kernel
theorem dX8_digest_102 : decode cX8_digest 102 = .ok (.lload_n 1, 1) := by decide +kernel
theorem dX8_digest_103 : decode cX8_digest 103 = .ok (.lreturn, 1) := by decide +kernel
theorem dX8_isThief_0 : decode cX8_isThief 0 = .ok (.iload_n 1, 1) := by decide +kernel
theorem dX8_isThief_1 : decode cX8_isThief 1 = .ok (.ifCond .lt 15, 3) := by decide +kernel
theorem dX8_isThief_4 : decode cX8_isThief 4 = .ok (.iload_n 1, 1) := by decide +kernel
theorem dX8_isThief_5 : decode cX8_isThief 5 = .ok (.aload_n 0, 1) := by decide +kernel
theorem dX8_isThief_6 : decode cX8_isThief 6 = .ok (.getfield 62, 3) := by decide +kernel
theorem dX8_isThief_9 : decode cX8_isThief 9 = .ok (.if_icmp .ge 7, 3) := by decide +kernel
theorem dX8_isThief_12 : decode cX8_isThief 12 = .ok (.iconst 1, 1) := by decide +kernel
theorem dX8_isThief_13 : decode cX8_isThief 13 = .ok (.goto 4, 3) := by decide +kernel
theorem dX8_isThief_16 : decode cX8_isThief 16 = .ok (.iconst 0, 1) := by decide +kernel
theorem dX8_isThief_17 : decode cX8_isThief 17 = .ok (.ireturn, 1) := by decide +kernel
theorem dX8_isSpoon_0 : decode cX8_isSpoon 0 = .ok (.iload_n 1, 1) := by decide +kernel
theorem dX8_isSpoon_1 : decode cX8_isSpoon 1 = .ok (.ifCond .lt 15, 3) := by decide +kernel
theorem dX8_isSpoon_4 : decode cX8_isSpoon 4 = .ok (.iload_n 1, 1) := by decide +kernel
theorem dX8_isSpoon_5 : decode cX8_isSpoon 5 = .ok (.aload_n 0, 1) := by decide +kernel
theorem dX8_isSpoon_6 : decode cX8_isSpoon 6 = .ok (.getfield 66, 3) := by decide +kernel
theorem dX8_isSpoon_9 : decode cX8_isSpoon 9 = .ok (.if_icmp .ge 7, 3) := by decide +kernel
theorem dX8_isSpoon_12 : decode cX8_isSpoon 12 = .ok (.iconst 1, 1) := by decide +kernel
theorem dX8_isSpoon_13 : decode cX8_isSpoon 13 = .ok (.goto 4, 3) := by decide +kernel
theorem dX8_isSpoon_16 : decode cX8_isSpoon 16 = .ok (.iconst 0, 1) := by decide +kernel
theorem dX8_isSpoon_17 : decode cX8_isSpoon 17 = .ok (.ireturn, 1) := by decide +kernel
theorem dX8_isHouse_0 : decode cX8_isHouse 0 = .ok (.iload_n 0, 1) := by decide +kernel
theorem dX8_isHouse_1 : decode cX8_isHouse 1 = .ok (.ifCond .lt 13, 3) := by decide +kernel
theorem dX8_isHouse_4 : decode cX8_isHouse 4 = .ok (.iload_n 0, 1) := by decide +kernel
theorem dX8_isHouse_5 : decode cX8_isHouse 5 = .ok (.bipush 8, 2) := by decide +kernel
theorem dX8_isHouse_7 : decode cX8_isHouse 7 = .ok (.if_icmp .ge 7, 3) := by decide +kernel
theorem dX8_isHouse_10 : decode cX8_isHouse 10 = .ok (.iconst 1, 1) := by decide +kernel
theorem dX8_isHouse_11 : decode cX8_isHouse 11 = .ok (.goto 4, 3) := by decide +kernel
theorem dX8_isHouse_14 : decode cX8_isHouse 14 = .ok (.iconst 0, 1) := by decide +kernel
theorem dX8_isHouse_15 : decode cX8_isHouse 15 = .ok (.ireturn, 1) := by decide +kernel
theorem dX8_asNumber_0 : decode cX8_asNumber 0 = .ok (.iload_n 0, 1) := by decide +kernel
theorem dX8_asNumber_1 : decode cX8_asNumber 1 = .ok (.ifCond .eq 7, 3) := by decide +kernel
theorem dX8_asNumber_4 : decode cX8_asNumber 4 = .ok (.iconst 1, 1) := by decide +kernel
theorem dX8_asNumber_5 : decode cX8_asNumber 5 = .ok (.goto 4, 3) := by decide +kernel
theorem dX8_asNumber_8 : decode cX8_asNumber 8 = .ok (.iconst 0, 1) := by decide +kernel
theorem dX8_asNumber_9 : decode cX8_asNumber 9 = .ok (.ireturn, 1) := by decide +kernel
theorem dX8_byteOf_0 : decode cX8_byteOf 0 = .ok (.lload_n 0, 1) := by decide +kernel
theorem dX8_byteOf_1 : decode cX8_byteOf 1 = .ok (.bipush 8, 2) := by decide +kernel
theorem dX8_byteOf_3 : decode cX8_byteOf 3 = .ok (.iload_n 2, 1) := by decide +kernel
theorem dX8_byteOf_4 : decode cX8_byteOf 4 = .ok (.imul, 1) := by decide +kernel
theorem dX8_byteOf_5 : decode cX8_byteOf 5 = .ok (.lushr, 1) := by decide +kernel
theorem dX8_byteOf_6 : decode cX8_byteOf 6 = .ok (.l2i, 1) := by decide +kernel
theorem dX8_byteOf_7 : decode cX8_byteOf 7 = .ok (.sipush 255, 3) := by decide +kernel
theorem dX8_byteOf_10 : decode cX8_byteOf 10 = .ok (.iand, 1) := by decide +kernel
theorem dX8_byteOf_11 : decode cX8_byteOf 11 = .ok (.ireturn, 1) := by decide +kernel
theorem dX8_lettersTold_0 : decode cX8_lettersTold 0 = .ok (.iconst 0, 1) := by decide +kernel
theorem dX8_lettersTold_1 : decode cX8_lettersTold 1 = .ok (.istore_n 2, 1) := by decide +kernel
theorem dX8_lettersTold_2 : decode cX8_lettersTold 2 = .ok (.iconst 0, 1) := by decide +kernel
theorem dX8_lettersTold_3 : decode cX8_lettersTold 3 = .ok (.istore_n 3, 1) := by decide +kernel
theorem dX8_lettersTold_4 : decode cX8_lettersTold 4 = .ok (.iload_n 3, 1) := by decide +kernel
theorem dX8_lettersTold_5 : decode cX8_lettersTold 5 = .ok (.bipush 8, 2) := by decide +kernel
theorem dX8_lettersTold_7 : decode cX8_lettersTold 7 = .ok (.if_icmp .ge 48, 3) := by decide +kernel
theorem dX8_lettersTold_10 : decode cX8_lettersTold 10 = .ok (.lload_n 0, 1) := by decide +kernel
theorem dX8_lettersTold_11 : decode cX8_lettersTold 11 = .ok (.iload_n 3, 1) := by decide +kernel
theorem dX8_lettersTold_12 : decode cX8_lettersTold 12 = .ok (.invokestatic 95, 3) := by decide +kernel
theorem dX8_lettersTold_15 : decode cX8_lettersTold 15 = .ok (.istore 4, 2) := by decide +kernel
theorem dX8_lettersTold_17 : decode cX8_lettersTold 17 = .ok (.iload 4, 2) := by decide +kernel
theorem dX8_lettersTold_19 : decode cX8_lettersTold 19 = .ok (.bipush 126, 2) := by decide +kernel
theorem dX8_lettersTold_21 : decode cX8_lettersTold 21 = .ok (.if_icmp .gt 13, 3) := by decide +kernel
theorem dX8_lettersTold_24 : decode cX8_lettersTold 24 = .ok (.iload 4, 2) := by decide +kernel
theorem dX8_lettersTold_26 : decode cX8_lettersTold 26 = .ok (.ifCond .eq 10, 3) := by decide +kernel
theorem dX8_lettersTold_29 : decode cX8_lettersTold 29 = .ok (.iload_n 2, 1) := by decide +kernel
theorem dX8_lettersTold_30 : decode cX8_lettersTold 30 = .ok (.iload_n 3, 1) := by decide +kernel
theorem dX8_lettersTold_31 : decode cX8_lettersTold 31 = .ok (.if_icmp .ge 5, 3) := by decide +kernel
theorem dX8_lettersTold_34 : decode cX8_lettersTold 34 = .ok (.iconst (-1), 1) := by decide +kernel
theorem dX8_lettersTold_35 : decode cX8_lettersTold 35 = .ok (.ireturn, 1) := by decide +kernel
theorem dX8_lettersTold_36 : decode cX8_lettersTold 36 = .ok (.iload_n 2, 1) := by decide +kernel
theorem dX8_lettersTold_37 : decode cX8_lettersTold 37 = .ok (.iload 4, 2) := by decide +kernel
theorem dX8_lettersTold_39 : decode cX8_lettersTold 39 = .ok (.ifCond .eq 7, 3) := by decide +kernel
theorem dX8_lettersTold_42 : decode cX8_lettersTold 42 = .ok (.iconst 1, 1) := by decide +kernel
theorem dX8_lettersTold_43 : decode cX8_lettersTold 43 = .ok (.goto 4, 3) := by decide +kernel
theorem dX8_lettersTold_46 : decode cX8_lettersTold 46 = .ok (.iconst 0, 1) := by decide +kernel
theorem dX8_lettersTold_47 : decode cX8_lettersTold 47 = .ok (.iadd, 1) := by decide +kernel
theorem dX8_lettersTold_48 : decode cX8_lettersTold 48 = .ok (.istore_n 2, 1) := by decide +kernel
theorem dX8_lettersTold_49 : decode cX8_lettersTold 49 = .ok (.iinc 3 1, 3) := by decide +kernel
theorem dX8_lettersTold_52 : decode cX8_lettersTold 52 = .ok (.goto (-48), 3) := by decide +kernel
theorem dX8_lettersTold_55 : decode cX8_lettersTold 55 = .ok (.iload_n 2, 1) := by decide +kernel
theorem dX8_lettersTold_56 : decode cX8_lettersTold 56 = .ok (.ireturn, 1) := by decide +kernel
theorem dX8_hired_0 : decode cX8_hired 0 = .ok (.iload_n 0, 1) := by decide +kernel
theorem dX8_hired_1 : decode cX8_hired 1 = .ok (.tableswitch 75 1 4 #[31, 42, 53, 64], 31) := by decide +kernel
theorem dX8_hired_32 : decode cX8_hired 32 = .ok (.new 275, 3) := by decide +kernel
theorem dX8_hired_35 : decode cX8_hired 35 = .ok (.dup, 1) := by decide +kernel
theorem dX8_hired_36 : decode cX8_hired 36 = .ok (.iload_n 1, 1) := by decide +kernel
theorem dX8_hired_37 : decode cX8_hired 37 = .ok (.iload_n 2, 1) := by decide +kernel
theorem dX8_hired_38 : decode cX8_hired 38 = .ok (.iload_n 3, 1) := by decide +kernel
theorem dX8_hired_39 : decode cX8_hired 39 = .ok (.invokespecial 277, 3) := by decide +kernel
theorem dX8_hired_42 : decode cX8_hired 42 = .ok (.areturn, 1) := by decide +kernel
theorem dX8_hired_43 : decode cX8_hired 43 = .ok (.new 278, 3) := by decide +kernel
theorem dX8_hired_46 : decode cX8_hired 46 = .ok (.dup, 1) := by decide +kernel
theorem dX8_hired_47 : decode cX8_hired 47 = .ok (.iload_n 1, 1) := by decide +kernel
theorem dX8_hired_48 : decode cX8_hired 48 = .ok (.iload_n 2, 1) := by decide +kernel
theorem dX8_hired_49 : decode cX8_hired 49 = .ok (.iload_n 3, 1) := by decide +kernel
theorem dX8_hired_50 : decode cX8_hired 50 = .ok (.invokespecial 280, 3) := by decide +kernel
theorem dX8_hired_53 : decode cX8_hired 53 = .ok (.areturn, 1) := by decide +kernel
theorem dX8_hired_54 : decode cX8_hired 54 = .ok (.new 281, 3) := by decide +kernel
theorem dX8_hired_57 : decode cX8_hired 57 = .ok (.dup, 1) := by decide +kernel
theorem dX8_hired_58 : decode cX8_hired 58 = .ok (.iload_n 1, 1) := by decide +kernel
theorem dX8_hired_59 : decode cX8_hired 59 = .ok (.iload_n 2, 1) := by decide +kernel
theorem dX8_hired_60 : decode cX8_hired 60 = .ok (.iload_n 3, 1) := by decide +kernel
theorem dX8_hired_61 : decode cX8_hired 61 = .ok (.invokespecial 283, 3) := by decide +kernel
theorem dX8_hired_64 : decode cX8_hired 64 = .ok (.areturn, 1) := by decide +kernel
theorem dX8_hired_65 : decode cX8_hired 65 = .ok (.new 284, 3) := by decide +kernel
theorem dX8_hired_68 : decode cX8_hired 68 = .ok (.dup, 1) := by decide +kernel
theorem dX8_hired_69 : decode cX8_hired 69 = .ok (.iload_n 1, 1) := by decide +kernel
theorem dX8_hired_70 : decode cX8_hired 70 = .ok (.iload_n 2, 1) := by decide +kernel
theorem dX8_hired_71 : decode cX8_hired 71 = .ok (.iload_n 3, 1) := by decide +kernel
theorem dX8_hired_72 : decode cX8_hired 72 = .ok (.invokespecial 286, 3) := by decide +kernel
theorem dX8_hired_75 : decode cX8_hired 75 = .ok (.areturn, 1) := by decide +kernel
theorem dX8_hired_76 : decode cX8_hired 76 = .ok (.new 23, 3) := by decide +kernel
theorem dX8_hired_79 : decode cX8_hired 79 = .ok (.dup, 1) := by decide +kernel
theorem dX8_hired_80 : decode cX8_hired 80 = .ok (.iload_n 1, 1) := by decide +kernel
theorem dX8_hired_81 : decode cX8_hired 81 = .ok (.iload_n 2, 1) := by decide +kernel
theorem dX8_hired_82 : decode cX8_hired 82 = .ok (.iload_n 3, 1) := by decide +kernel
theorem dX8_hired_83 : decode cX8_hired 83 = .ok (.invokespecial 82, 3) := by decide +kernel
theorem dX8_hired_86 : decode cX8_hired 86 = .ok (.areturn, 1) := by decide +kernel
theorem dX8_isOfKind_0 : decode cX8_isOfKind 0 = .ok (.iload_n 1, 1) := by decide +kernel
theorem dX8_isOfKind_1 : decode cX8_isOfKind 1 = .ok (.tableswitch 51 1 4 #[31, 36, 41, 46], 31) := by decide +kernel
theorem dX8_isOfKind_32 : decode cX8_isOfKind 32 = .ok (.aload_n 0, 1) := by decide +kernel
theorem dX8_isOfKind_33 : decode cX8_isOfKind 33 = .ok (.instanceof 275, 3) := by decide +kernel
theorem dX8_isOfKind_36 : decode cX8_isOfKind 36 = .ok (.ireturn, 1) := by decide +kernel
theorem dX8_isOfKind_37 : decode cX8_isOfKind 37 = .ok (.aload_n 0, 1) := by decide +kernel
theorem dX8_isOfKind_38 : decode cX8_isOfKind 38 = .ok (.instanceof 278, 3) := by decide +kernel
theorem dX8_isOfKind_41 : decode cX8_isOfKind 41 = .ok (.ireturn, 1) := by decide +kernel
theorem dX8_isOfKind_42 : decode cX8_isOfKind 42 = .ok (.aload_n 0, 1) := by decide +kernel
theorem dX8_isOfKind_43 : decode cX8_isOfKind 43 = .ok (.instanceof 281, 3) := by decide +kernel
theorem dX8_isOfKind_46 : decode cX8_isOfKind 46 = .ok (.ireturn, 1) := by decide +kernel
theorem dX8_isOfKind_47 : decode cX8_isOfKind 47 = .ok (.aload_n 0, 1) := by decide +kernel
theorem dX8_isOfKind_48 : decode cX8_isOfKind 48 = .ok (.instanceof 284, 3) := by decide +kernel
theorem dX8_isOfKind_51 : decode cX8_isOfKind 51 = .ok (.ireturn, 1) := by decide +kernel
theorem dX8_isOfKind_52 : decode cX8_isOfKind 52 = .ok (.iconst 1, 1) := by decide +kernel
theorem dX8_isOfKind_53 : decode cX8_isOfKind 53 = .ok (.ireturn, 1) := by decide +kernel
theorem dX8_monthWithout_0 : decode cX8_monthWithout 0 = .ok (.iconst 0, 1) := by decide +kernel
theorem dX8_monthWithout_1 : decode cX8_monthWithout 1 = .ok (.istore_n 3, 1) := by decide +kernel
theorem dX8_monthWithout_2 : decode cX8_monthWithout 2 = .ok (.iconst 0, 1) := by decide +kernel
theorem dX8_monthWithout_3 : decode cX8_monthWithout 3 = .ok (.istore 4, 2) := by decide +kernel
theorem dX8_monthWithout_5 : decode cX8_monthWithout 5 = .ok (.iload 4, 2) := by decide +kernel
theorem dX8_monthWithout_7 : decode cX8_monthWithout 7 = .ok (.aload_n 0, 1) := by decide +kernel
theorem dX8_monthWithout_8 : decode cX8_monthWithout 8 = .ok (.getfield 62, 3) := by decide +kernel
theorem dX8_monthWithout_11 : decode cX8_monthWithout 11 = .ok (.if_icmp .ge 29, 3) := by decide +kernel
theorem dX8_monthWithout_14 : decode cX8_monthWithout 14 = .ok (.iload_n 3, 1) := by decide +kernel
theorem dX8_monthWithout_15 : decode cX8_monthWithout 15 = .ok (.iload 4, 2) := by decide +kernel
theorem dX8_monthWithout_17 : decode cX8_monthWithout 17 = .ok (.iload_n 2, 1) := by decide +kernel
theorem dX8_monthWithout_18 : decode cX8_monthWithout 18 = .ok (.if_icmp .eq 13, 3) := by decide +kernel
theorem dX8_monthWithout_21 : decode cX8_monthWithout 21 = .ok (.aload_n 0, 1) := by decide +kernel
theorem dX8_monthWithout_22 : decode cX8_monthWithout 22 = .ok (.aload_n 1, 1) := by decide +kernel
theorem dX8_monthWithout_23 : decode cX8_monthWithout 23 = .ok (.iload 4, 2) := by decide +kernel
theorem dX8_monthWithout_25 : decode cX8_monthWithout 25 = .ok (.invokevirtual 238, 3) := by decide +kernel
theorem dX8_monthWithout_28 : decode cX8_monthWithout 28 = .ok (.goto 4, 3) := by decide +kernel
theorem dX8_monthWithout_31 : decode cX8_monthWithout 31 = .ok (.iconst 0, 1) := by decide +kernel
theorem dX8_monthWithout_32 : decode cX8_monthWithout 32 = .ok (.iadd, 1) := by decide +kernel
theorem dX8_monthWithout_33 : decode cX8_monthWithout 33 = .ok (.istore_n 3, 1) := by decide +kernel
theorem dX8_monthWithout_34 : decode cX8_monthWithout 34 = .ok (.iinc 4 1, 3) := by decide +kernel
theorem dX8_monthWithout_37 : decode cX8_monthWithout 37 = .ok (.goto (-32), 3) := by decide +kernel
theorem dX8_monthWithout_40 : decode cX8_monthWithout 40 = .ok (.aload_n 1, 1) := by decide +kernel
theorem dX8_monthWithout_41 : decode cX8_monthWithout 41 = .ok (.invokevirtual 241, 3) := by decide +kernel
theorem dX8_monthWithout_44 : decode cX8_monthWithout 44 = .ok (.iload_n 3, 1) := by decide +kernel
theorem dX8_monthWithout_45 : decode cX8_monthWithout 45 = .ok (.ireturn, 1) := by decide +kernel
theorem dX8_visit_0 : decode cX8_visit 0 = .ok (.aload_n 0, 1) := by decide +kernel
theorem dX8_visit_1 : decode cX8_visit 1 = .ok (.getfield 25, 3) := by decide +kernel
theorem dX8_visit_4 : decode cX8_visit 4 = .ok (.iload_n 2, 1) := by decide +kernel
theorem dX8_visit_5 : decode cX8_visit 5 = .ok (.aaload, 1) := by decide +kernel
theorem dX8_visit_6 : decode cX8_visit 6 = .ok (.astore_n 3, 1) := by decide +kernel
theorem dX8_visit_7 : decode cX8_visit 7 = .ok (.aload_n 3, 1) := by decide +kernel
theorem dX8_visit_8 : decode cX8_visit 8 = .ok (.aload_n 1, 1) := by decide +kernel
theorem dX8_visit_9 : decode cX8_visit 9 = .ok (.getfield 126, 3) := by decide +kernel
theorem dX8_visit_12 : decode cX8_visit 12 = .ok (.iload_n 2, 1) := by decide +kernel
theorem dX8_visit_13 : decode cX8_visit 13 = .ok (.baload, 1) := by decide +kernel
theorem dX8_visit_14 : decode cX8_visit 14 = .ok (.invokevirtual 287, 3) := by decide +kernel
theorem dX8_visit_17 : decode cX8_visit 17 = .ok (.istore 4, 2) := by decide +kernel
theorem dX8_visit_19 : decode cX8_visit 19 = .ok (.aload_n 3, 1) := by decide +kernel
theorem dX8_visit_20 : decode cX8_visit 20 = .ok (.aload_n 1, 1) := by decide +kernel
theorem dX8_visit_21 : decode cX8_visit 21 = .ok (.getfield 126, 3) := by decide +kernel
theorem dX8_visit_24 : decode cX8_visit 24 = .ok (.iload_n 2, 1) := by decide +kernel
theorem dX8_visit_25 : decode cX8_visit 25 = .ok (.baload, 1) := by decide +kernel
theorem dX8_visit_26 : decode cX8_visit 26 = .ok (.ifCond .ne 7, 3) := by decide +kernel
theorem dX8_visit_29 : decode cX8_visit 29 = .ok (.iconst 1, 1) := by decide +kernel
theorem dX8_visit_30 : decode cX8_visit 30 = .ok (.goto 4, 3) := by decide +kernel
theorem dX8_visit_33 : decode cX8_visit 33 = .ok (.iconst 0, 1) := by decide +kernel
theorem dX8_visit_34 : decode cX8_visit 34 = .ok (.invokevirtual 287, 3) := by decide +kernel
theorem dX8_visit_37 : decode cX8_visit 37 = .ok (.istore 5, 2) := by decide +kernel
theorem dX8_visit_39 : decode cX8_visit 39 = .ok (.aload_n 3, 1) := by decide +kernel
theorem dX8_visit_40 : decode cX8_visit 40 = .ok (.aload_n 1, 1) := by decide +kernel
theorem dX8_visit_41 : decode cX8_visit 41 = .ok (.getfield 163, 3) := by decide +kernel
theorem dX8_visit_44 : decode cX8_visit 44 = .ok (.iload 4, 2) := by decide +kernel
theorem dX8_visit_46 : decode cX8_visit 46 = .ok (.baload, 1) := by decide +kernel
theorem dX8_visit_47 : decode cX8_visit 47 = .ok (.aload_n 1, 1) := by decide +kernel
theorem dX8_visit_48 : decode cX8_visit 48 = .ok (.getfield 160, 3) := by decide +kernel
theorem dX8_visit_51 : decode cX8_visit 51 = .ok (.iload 4, 2) := by decide +kernel
theorem dX8_visit_53 : decode cX8_visit 53 = .ok (.iaload, 1) := by decide +kernel
theorem dX8_visit_54 : decode cX8_visit 54 = .ok (.invokevirtual 290, 3) := by decide +kernel
theorem dX8_visit_57 : decode cX8_visit 57 = .ok (.ifCond .eq 5, 3) := by decide +kernel
theorem dX8_visit_60 : decode cX8_visit 60 = .ok (.iconst 0, 1) := by decide +kernel
theorem dX8_visit_61 : decode cX8_visit 61 = .ok (.ireturn, 1) := by decide +kernel
theorem dX8_visit_62 : decode cX8_visit 62 = .ok (.iconst 0, 1) := by decide +kernel
theorem dX8_visit_63 : decode cX8_visit 63 = .ok (.istore 6, 2) := by decide +kernel
theorem dX8_visit_65 : decode cX8_visit 65 = .ok (.iconst 0, 1) := by decide +kernel
theorem dX8_visit_66 : decode cX8_visit 66 = .ok (.istore 7, 2) := by decide +kernel
theorem dX8_visit_68 : decode cX8_visit 68 = .ok (.iload 7, 2) := by decide +kernel
theorem dX8_visit_70 : decode cX8_visit 70 = .ok (.aload_n 3, 1) := by decide +kernel
theorem dX8_visit_71 : decode cX8_visit 71 = .ok (.invokevirtual 294, 3) := by decide +kernel
theorem dX8_visit_74 : decode cX8_visit 74 = .ok (.if_icmp .ge 40, 3) := by decide +kernel
theorem dX8_visit_77 : decode cX8_visit 77 = .ok (.aload_n 0, 1) := by decide +kernel
theorem dX8_visit_78 : decode cX8_visit 78 = .ok (.aload_n 1, 1) := by decide +kernel
theorem dX8_visit_79 : decode cX8_visit 79 = .ok (.aload_n 3, 1) := by decide +kernel
theorem dX8_visit_80 : decode cX8_visit 80 = .ok (.iload 4, 2) := by decide +kernel
theorem dX8_visit_82 : decode cX8_visit 82 = .ok (.invokevirtual 297, 3) := by decide +kernel
theorem dX8_visit_85 : decode cX8_visit 85 = .ok (.istore 8, 2) := by decide +kernel
theorem dX8_visit_87 : decode cX8_visit 87 = .ok (.iload 8, 2) := by decide +kernel
theorem dX8_visit_89 : decode cX8_visit 89 = .ok (.iconst (-1), 1) := by decide +kernel
theorem dX8_visit_90 : decode cX8_visit 90 = .ok (.if_icmp .ne 6, 3) := by decide +kernel
theorem dX8_visit_93 : decode cX8_visit 93 = .ok (.goto 21, 3) := by decide +kernel
theorem dX8_visit_96 : decode cX8_visit 96 = .ok (.aload_n 1, 1) := by decide +kernel
theorem dX8_visit_97 : decode cX8_visit 97 = .ok (.getfield 166, 3) := by decide +kernel
theorem dX8_visit_100 : decode cX8_visit 100 = .ok (.iload 8, 2) := by decide +kernel
theorem dX8_visit_102 : decode cX8_visit 102 = .ok (.iload 5, 2) := by decide +kernel
theorem dX8_visit_104 : decode cX8_visit 104 = .ok (.iastore, 1) := by decide +kernel
theorem dX8_visit_105 : decode cX8_visit 105 = .ok (.iinc 6 1, 3) := by decide +kernel
theorem dX8_visit_108 : decode cX8_visit 108 = .ok (.iinc 7 1, 3) := by decide +kernel
theorem dX8_visit_111 : decode cX8_visit 111 = .ok (.goto (-43), 3) := by decide +kernel
theorem dX8_visit_114 : decode cX8_visit 114 = .ok (.iload 6, 2) := by decide +kernel
theorem dX8_visit_116 : decode cX8_visit 116 = .ok (.ireturn, 1) := by decide +kernel
theorem dX8_picked_0 : decode cX8_picked 0 = .ok (.iconst (-1), 1) := by decide +kernel
theorem dX8_picked_1 : decode cX8_picked 1 = .ok (.istore 4, 2) := by decide +kernel
theorem dX8_picked_3 : decode cX8_picked 3 = .ok (.iconst 0, 1) := by decide +kernel
theorem dX8_picked_4 : decode cX8_picked 4 = .ok (.istore 5, 2) := by decide +kernel
theorem dX8_picked_6 : decode cX8_picked 6 = .ok (.iload 5, 2) := by decide +kernel
theorem dX8_picked_8 : decode cX8_picked 8 = .ok (.aload_n 0, 1) := by decide +kernel
theorem dX8_picked_9 : decode cX8_picked 9 = .ok (.getfield 66, 3) := by decide +kernel
theorem dX8_picked_12 : decode cX8_picked 12 = .ok (.if_icmp .ge 51, 3) := by decide +kernel
theorem dX8_picked_15 : decode cX8_picked 15 = .ok (.aload_n 1, 1) := by decide +kernel
theorem dX8_picked_16 : decode cX8_picked 16 = .ok (.getfield 166, 3) := by decide +kernel
theorem dX8_picked_19 : decode cX8_picked 19 = .ok (.iload 5, 2) := by decide +kernel
theorem dX8_picked_21 : decode cX8_picked 21 = .ok (.iaload, 1) := by decide +kernel
theorem dX8_picked_22 : decode cX8_picked 22 = .ok (.iload_n 3, 1) := by decide +kernel
theorem dX8_picked_23 : decode cX8_picked 23 = .ok (.if_icmp .ne 34, 3) := by decide +kernel
theorem dX8_picked_26 : decode cX8_picked 26 = .ok (.iload 4, 2) := by decide +kernel
theorem dX8_picked_28 : decode cX8_picked 28 = .ok (.iconst (-1), 1) := by decide +kernel
theorem dX8_picked_29 : decode cX8_picked 29 = .ok (.if_icmp .eq 24, 3) := by decide +kernel
theorem dX8_picked_32 : decode cX8_picked 32 = .ok (.aload_n 2, 1) := by decide +kernel
theorem dX8_picked_33 : decode cX8_picked 33 = .ok (.aload_n 0, 1) := by decide +kernel
theorem dX8_picked_34 : decode cX8_picked 34 = .ok (.getfield 29, 3) := by decide +kernel
theorem dX8_picked_37 : decode cX8_picked 37 = .ok (.iload 5, 2) := by decide +kernel
theorem dX8_picked_39 : decode cX8_picked 39 = .ok (.iaload, 1) := by decide +kernel
theorem dX8_picked_40 : decode cX8_picked 40 = .ok (.aload_n 0, 1) := by decide +kernel
theorem dX8_picked_41 : decode cX8_picked 41 = .ok (.getfield 29, 3) := by decide +kernel
theorem dX8_picked_44 : decode cX8_picked 44 = .ok (.iload 4, 2) := by decide +kernel
theorem dX8_picked_46 : decode cX8_picked 46 = .ok (.iaload, 1) := by decide +kernel
theorem dX8_picked_47 : decode cX8_picked 47 = .ok (.invokevirtual 301, 3) := by decide +kernel
theorem dX8_picked_50 : decode cX8_picked 50 = .ok (.ifCond .eq 7, 3) := by decide +kernel
theorem dX8_picked_53 : decode cX8_picked 53 = .ok (.iload 5, 2) := by decide +kernel
theorem dX8_picked_55 : decode cX8_picked 55 = .ok (.istore 4, 2) := by decide +kernel
theorem dX8_picked_57 : decode cX8_picked 57 = .ok (.iinc 5 1, 3) := by decide +kernel
theorem dX8_picked_60 : decode cX8_picked 60 = .ok (.goto (-54), 3) := by decide +kernel
theorem dX8_picked_63 : decode cX8_picked 63 = .ok (.iload 4, 2) := by decide +kernel
theorem dX8_picked_65 : decode cX8_picked 65 = .ok (.ireturn, 1) := by decide +kernel
theorem dX8_worthIn_0 : decode cX8_worthIn 0 = .ok (.iconst 0, 1) := by decide +kernel
theorem dX8_worthIn_1 : decode cX8_worthIn 1 = .ok (.istore_n 3, 1) := by decide +kernel
theorem dX8_worthIn_2 : decode cX8_worthIn 2 = .ok (.iconst 0, 1) := by decide +kernel
theorem dX8_worthIn_3 : decode cX8_worthIn 3 = .ok (.istore 4, 2) := by decide +kernel
theorem dX8_worthIn_5 : decode cX8_worthIn 5 = .ok (.iload 4, 2) := by decide +kernel
theorem dX8_worthIn_7 : decode cX8_worthIn 7 = .ok (.aload_n 0, 1) := by decide +kernel
theorem dX8_worthIn_8 : decode cX8_worthIn 8 = .ok (.getfield 66, 3) := by decide +kernel
theorem dX8_worthIn_11 : decode cX8_worthIn 11 = .ok (.if_icmp .ge 34, 3) := by decide +kernel
theorem dX8_worthIn_14 : decode cX8_worthIn 14 = .ok (.iload_n 3, 1) := by decide +kernel
theorem dX8_worthIn_15 : decode cX8_worthIn 15 = .ok (.aload_n 1, 1) := by decide +kernel
theorem dX8_worthIn_16 : decode cX8_worthIn 16 = .ok (.getfield 166, 3) := by decide +kernel
theorem dX8_worthIn_19 : decode cX8_worthIn 19 = .ok (.iload 4, 2) := by decide +kernel
theorem dX8_worthIn_21 : decode cX8_worthIn 21 = .ok (.iaload, 1) := by decide +kernel
theorem dX8_worthIn_22 : decode cX8_worthIn 22 = .ok (.iload_n 2, 1) := by decide +kernel
theorem dX8_worthIn_23 : decode cX8_worthIn 23 = .ok (.if_icmp .ne 13, 3) := by decide +kernel
theorem dX8_worthIn_26 : decode cX8_worthIn 26 = .ok (.aload_n 0, 1) := by decide +kernel
theorem dX8_worthIn_27 : decode cX8_worthIn 27 = .ok (.getfield 29, 3) := by decide +kernel
theorem dX8_worthIn_30 : decode cX8_worthIn 30 = .ok (.iload 4, 2) := by decide +kernel
theorem dX8_worthIn_32 : decode cX8_worthIn 32 = .ok (.iaload, 1) := by decide +kernel
theorem dX8_worthIn_33 : decode cX8_worthIn 33 = .ok (.goto 4, 3) := by decide +kernel
theorem dX8_worthIn_36 : decode cX8_worthIn 36 = .ok (.iconst 0, 1) := by decide +kernel
theorem dX8_worthIn_37 : decode cX8_worthIn 37 = .ok (.iadd, 1) := by decide +kernel
theorem dX8_worthIn_38 : decode cX8_worthIn 38 = .ok (.istore_n 3, 1) := by decide +kernel
theorem dX8_worthIn_39 : decode cX8_worthIn 39 = .ok (.iinc 4 1, 3) := by decide +kernel
theorem dX8_worthIn_42 : decode cX8_worthIn 42 = .ok (.goto (-37), 3) := by decide +kernel
theorem dX8_worthIn_45 : decode cX8_worthIn 45 = .ok (.iload_n 3, 1) := by decide +kernel
theorem dX8_worthIn_46 : decode cX8_worthIn 46 = .ok (.ireturn, 1) := by decide +kernel
theorem dX8_worthAtHome_0 : decode cX8_worthAtHome 0 = .ok (.iconst 0, 1) := by decide +kernel
theorem dX8_worthAtHome_1 : decode cX8_worthAtHome 1 = .ok (.istore_n 2, 1) := by decide +kernel
theorem dX8_worthAtHome_2 : decode cX8_worthAtHome 2 = .ok (.iconst 0, 1) := by decide +kernel
theorem dX8_worthAtHome_3 : decode cX8_worthAtHome 3 = .ok (.istore_n 3, 1) := by decide +kernel
theorem dX8_worthAtHome_4 : decode cX8_worthAtHome 4 = .ok (.iload_n 3, 1) := by decide +kernel
theorem dX8_worthAtHome_5 : decode cX8_worthAtHome 5 = .ok (.aload_n 0, 1) := by decide +kernel
theorem dX8_worthAtHome_6 : decode cX8_worthAtHome 6 = .ok (.getfield 66, 3) := by decide +kernel
theorem dX8_worthAtHome_9 : decode cX8_worthAtHome 9 = .ok (.if_icmp .ge 37, 3) := by decide +kernel
theorem dX8_worthAtHome_12 : decode cX8_worthAtHome 12 = .ok (.iload_n 2, 1) := by decide +kernel
theorem dX8_worthAtHome_13 : decode cX8_worthAtHome 13 = .ok (.aload_n 1, 1) := by decide +kernel
theorem dX8_worthAtHome_14 : decode cX8_worthAtHome 14 = .ok (.getfield 166, 3) := by decide +kernel
theorem dX8_worthAtHome_17 : decode cX8_worthAtHome 17 = .ok (.iload_n 3, 1) := by decide +kernel
theorem dX8_worthAtHome_18 : decode cX8_worthAtHome 18 = .ok (.iaload, 1) := by decide +kernel
theorem dX8_worthAtHome_19 : decode cX8_worthAtHome 19 = .ok (.aload_n 0, 1) := by decide +kernel
theorem dX8_worthAtHome_20 : decode cX8_worthAtHome 20 = .ok (.getfield 33, 3) := by decide +kernel
theorem dX8_worthAtHome_23 : decode cX8_worthAtHome 23 = .ok (.iload_n 3, 1) := by decide +kernel
theorem dX8_worthAtHome_24 : decode cX8_worthAtHome 24 = .ok (.iaload, 1) := by decide +kernel
theorem dX8_worthAtHome_25 : decode cX8_worthAtHome 25 = .ok (.if_icmp .ne 12, 3) := by decide +kernel
theorem dX8_worthAtHome_28 : decode cX8_worthAtHome 28 = .ok (.aload_n 0, 1) := by decide +kernel
theorem dX8_worthAtHome_29 : decode cX8_worthAtHome 29 = .ok (.getfield 29, 3) := by decide +kernel
theorem dX8_worthAtHome_32 : decode cX8_worthAtHome 32 = .ok (.iload_n 3, 1) := by decide +kernel
theorem dX8_worthAtHome_33 : decode cX8_worthAtHome 33 = .ok (.iaload, 1) := by decide +kernel
theorem dX8_worthAtHome_34 : decode cX8_worthAtHome 34 = .ok (.goto 4, 3) := by decide +kernel
theorem dX8_worthAtHome_37 : decode cX8_worthAtHome 37 = .ok (.iconst 0, 1) := by decide +kernel
theorem dX8_worthAtHome_38 : decode cX8_worthAtHome 38 = .ok (.iadd, 1) := by decide +kernel
theorem dX8_worthAtHome_39 : decode cX8_worthAtHome 39 = .ok (.istore_n 2, 1) := by decide +kernel
theorem dX8_worthAtHome_40 : decode cX8_worthAtHome 40 = .ok (.iinc 3 1, 3) := by decide +kernel
theorem dX8_worthAtHome_43 : decode cX8_worthAtHome 43 = .ok (.goto (-39), 3) := by decide +kernel
theorem dX8_worthAtHome_46 : decode cX8_worthAtHome 46 = .ok (.iload_n 2, 1) := by decide +kernel
theorem dX8_worthAtHome_47 : decode cX8_worthAtHome 47 = .ok (.ireturn, 1) := by decide +kernel
theorem dX8_spoonsAway_0 : decode cX8_spoonsAway 0 = .ok (.iconst 0, 1) := by decide +kernel
theorem dX8_spoonsAway_1 : decode cX8_spoonsAway 1 = .ok (.istore_n 1, 1) := by decide +kernel
theorem dX8_spoonsAway_2 : decode cX8_spoonsAway 2 = .ok (.iconst 0, 1) := by decide +kernel
theorem dX8_spoonsAway_3 : decode cX8_spoonsAway 3 = .ok (.istore_n 2, 1) := by decide +kernel
theorem dX8_spoonsAway_4 : decode cX8_spoonsAway 4 = .ok (.iload_n 2, 1) := by decide +kernel
theorem dX8_spoonsAway_5 : decode cX8_spoonsAway 5 = .ok (.aload_n 0, 1) := by decide +kernel
theorem dX8_spoonsAway_6 : decode cX8_spoonsAway 6 = .ok (.getfield 66, 3) := by decide +kernel
theorem dX8_spoonsAway_9 : decode cX8_spoonsAway 9 = .ok (.if_icmp .ge 35, 3) := by decide +kernel
theorem dX8_spoonsAway_12 : decode cX8_spoonsAway 12 = .ok (.iload_n 1, 1) := by decide +kernel
theorem dX8_spoonsAway_13 : decode cX8_spoonsAway 13 = .ok (.aload_n 0, 1) := by decide +kernel
theorem dX8_spoonsAway_14 : decode cX8_spoonsAway 14 = .ok (.getfield 39, 3) := by decide +kernel
theorem dX8_spoonsAway_17 : decode cX8_spoonsAway 17 = .ok (.getfield 166, 3) := by decide +kernel
theorem dX8_spoonsAway_20 : decode cX8_spoonsAway 20 = .ok (.iload_n 2, 1) := by decide +kernel
theorem dX8_spoonsAway_21 : decode cX8_spoonsAway 21 = .ok (.iaload, 1) := by decide +kernel
theorem dX8_spoonsAway_22 : decode cX8_spoonsAway 22 = .ok (.aload_n 0, 1) := by decide +kernel
theorem dX8_spoonsAway_23 : decode cX8_spoonsAway 23 = .ok (.getfield 33, 3) := by decide +kernel
theorem dX8_spoonsAway_26 : decode cX8_spoonsAway 26 = .ok (.iload_n 2, 1) := by decide +kernel
theorem dX8_spoonsAway_27 : decode cX8_spoonsAway 27 = .ok (.iaload, 1) := by decide +kernel
theorem dX8_spoonsAway_28 : decode cX8_spoonsAway 28 = .ok (.if_icmp .eq 7, 3) := by decide +kernel
theorem dX8_spoonsAway_31 : decode cX8_spoonsAway 31 = .ok (.iconst 1, 1) := by decide +kernel
theorem dX8_spoonsAway_32 : decode cX8_spoonsAway 32 = .ok (.goto 4, 3) := by decide +kernel
theorem dX8_spoonsAway_35 : decode cX8_spoonsAway 35 = .ok (.iconst 0, 1) := by decide +kernel
theorem dX8_spoonsAway_36 : decode cX8_spoonsAway 36 = .ok (.iadd, 1) := by decide +kernel
theorem dX8_spoonsAway_37 : decode cX8_spoonsAway 37 = .ok (.istore_n 1, 1) := by decide +kernel
theorem dX8_spoonsAway_38 : decode cX8_spoonsAway 38 = .ok (.iinc 2 1, 3) := by decide +kernel
theorem dX8_spoonsAway_41 : decode cX8_spoonsAway 41 = .ok (.goto (-37), 3) := by decide +kernel
theorem dX8_spoonsAway_44 : decode cX8_spoonsAway 44 = .ok (.iload_n 1, 1) := by decide +kernel
theorem dX8_spoonsAway_45 : decode cX8_spoonsAway 45 = .ok (.ireturn, 1) := by decide +kernel
theorem dX8_nextSeed_0 : decode cX8_nextSeed 0 = .ok (.ldc2_w 305, 3) := by decide +kernel
theorem dX8_nextSeed_3 : decode cX8_nextSeed 3 = .ok (.iload_n 0, 1) := by decide +kernel
theorem dX8_nextSeed_4 : decode cX8_nextSeed 4 = .ok (.i2l, 1) := by decide +kernel
theorem dX8_nextSeed_5 : decode cX8_nextSeed 5 = .ok (.lmul, 1) := by decide +kernel
theorem dX8_nextSeed_6 : decode cX8_nextSeed 6 = .ok (.ldc2_w 307, 3) := by decide +kernel
theorem dX8_nextSeed_9 : decode cX8_nextSeed 9 = .ok (.ladd, 1) := by decide +kernel
theorem dX8_nextSeed_10 : decode cX8_nextSeed 10 = .ok (.ldc2_w 309, 3) := by decide +kernel
theorem dX8_nextSeed_13 : decode cX8_nextSeed 13 = .ok (.land, 1) := by decide +kernel
theorem dX8_nextSeed_14 : decode cX8_nextSeed 14 = .ok (.l2i, 1) := by decide +kernel
theorem dX8_nextSeed_15 : decode cX8_nextSeed 15 = .ok (.ireturn, 1) := by decide +kernel
theorem dX8_drawOfTen_0 : decode cX8_drawOfTen 0 = .ok (.iload_n 0, 1) := by decide +kernel
theorem dX8_drawOfTen_1 : decode cX8_drawOfTen 1 = .ok (.ldc_w 311, 3) := by decide +kernel
theorem dX8_drawOfTen_4 : decode cX8_drawOfTen 4 = .ok (.idiv, 1) := by decide +kernel
theorem dX8_drawOfTen_5 : decode cX8_drawOfTen 5 = .ok (.bipush 10, 2) := by decide +kernel
theorem dX8_drawOfTen_7 : decode cX8_drawOfTen 7 = .ok (.irem, 1) := by decide +kernel
theorem dX8_drawOfTen_8 : decode cX8_drawOfTen 8 = .ok (.ireturn, 1) := by decide +kernel
theorem dX8_spreadOdds_0 : decode cX8_spreadOdds 0 = .ok (.aload_n 0, 1) := by decide +kernel
theorem dX8_spreadOdds_1 : decode cX8_spreadOdds 1 = .ok (.getfield 46, 3) := by decide +kernel
theorem dX8_spreadOdds_4 : decode cX8_spreadOdds 4 = .ok (.aload_n 0, 1) := by decide +kernel
theorem dX8_spreadOdds_5 : decode cX8_spreadOdds 5 = .ok (.getfield 39, 3) := by decide +kernel
theorem dX8_spreadOdds_8 : decode cX8_spreadOdds 8 = .ok (.invokevirtual 188, 3) := by decide +kernel
theorem dX8_spreadOdds_11 : decode cX8_spreadOdds 11 = .ok (.iconst 0, 1) := by decide +kernel
theorem dX8_spreadOdds_12 : decode cX8_spreadOdds 12 = .ok (.istore_n 3, 1) := by decide +kernel
theorem dX8_spreadOdds_13 : decode cX8_spreadOdds 13 = .ok (.iload_n 3, 1) := by decide +kernel
theorem dX8_spreadOdds_14 : decode cX8_spreadOdds 14 = .ok (.bipush 8, 2) := by decide +kernel
theorem dX8_spreadOdds_16 : decode cX8_spreadOdds 16 = .ok (.if_icmp .ge 33, 3) := by decide +kernel
theorem dX8_spreadOdds_19 : decode cX8_spreadOdds 19 = .ok (.aload_n 0, 1) := by decide +kernel
theorem dX8_spreadOdds_20 : decode cX8_spreadOdds 20 = .ok (.getfield 49, 3) := by decide +kernel
theorem dX8_spreadOdds_23 : decode cX8_spreadOdds 23 = .ok (.iload_n 3, 1) := by decide +kernel
theorem dX8_spreadOdds_24 : decode cX8_spreadOdds 24 = .ok (.iload_n 3, 1) := by decide +kernel
theorem dX8_spreadOdds_25 : decode cX8_spreadOdds 25 = .ok (.aload_n 0, 1) := by decide +kernel
theorem dX8_spreadOdds_26 : decode cX8_spreadOdds 26 = .ok (.getfield 39, 3) := by decide +kernel
theorem dX8_spreadOdds_29 : decode cX8_spreadOdds 29 = .ok (.getfield 166, 3) := by decide +kernel
theorem dX8_spreadOdds_32 : decode cX8_spreadOdds 32 = .ok (.iload_n 1, 1) := by decide +kernel
theorem dX8_spreadOdds_33 : decode cX8_spreadOdds 33 = .ok (.iaload, 1) := by decide +kernel
theorem dX8_spreadOdds_34 : decode cX8_spreadOdds 34 = .ok (.if_icmp .ne 7, 3) := by decide +kernel
theorem dX8_spreadOdds_37 : decode cX8_spreadOdds 37 = .ok (.lconst 1, 1) := by decide +kernel
theorem dX8_spreadOdds_38 : decode cX8_spreadOdds 38 = .ok (.goto 4, 3) := by decide +kernel
theorem dX8_spreadOdds_41 : decode cX8_spreadOdds 41 = .ok (.lconst 0, 1) := by decide +kernel
theorem dX8_spreadOdds_42 : decode cX8_spreadOdds 42 = .ok (.lastore, 1) := by decide +kernel
theorem dX8_spreadOdds_43 : decode cX8_spreadOdds 43 = .ok (.iinc 3 1, 3) := by decide +kernel
theorem dX8_spreadOdds_46 : decode cX8_spreadOdds 46 = .ok (.goto (-33), 3) := by decide +kernel
theorem dX8_spreadOdds_49 : decode cX8_spreadOdds 49 = .ok (.lconst 1, 1) := by decide +kernel
theorem dX8_spreadOdds_50 : decode cX8_spreadOdds 50 = .ok (.lstore_n 3, 1) := by decide +kernel
theorem dX8_spreadOdds_51 : decode cX8_spreadOdds 51 = .ok (.iconst 0, 1) := by decide +kernel
theorem dX8_spreadOdds_52 : decode cX8_spreadOdds 52 = .ok (.istore 5, 2) := by decide +kernel
theorem dX8_spreadOdds_54 : decode cX8_spreadOdds 54 = .ok (.iload 5, 2) := by decide +kernel
theorem dX8_spreadOdds_56 : decode cX8_spreadOdds 56 = .ok (.iload_n 2, 1) := by decide +kernel
theorem dX8_spreadOdds_57 : decode cX8_spreadOdds 57 = .ok (.if_icmp .ge 46, 3) := by decide +kernel
theorem dX8_spreadOdds_60 : decode cX8_spreadOdds 60 = .ok (.iconst 0, 1) := by decide +kernel
theorem dX8_spreadOdds_61 : decode cX8_spreadOdds 61 = .ok (.istore 6, 2) := by decide +kernel
theorem dX8_spreadOdds_63 : decode cX8_spreadOdds 63 = .ok (.iload 6, 2) := by decide +kernel
theorem dX8_spreadOdds_65 : decode cX8_spreadOdds 65 = .ok (.aload_n 0, 1) := by decide +kernel
theorem dX8_spreadOdds_66 : decode cX8_spreadOdds 66 = .ok (.getfield 62, 3) := by decide +kernel
theorem dX8_spreadOdds_69 : decode cX8_spreadOdds 69 = .ok (.if_icmp .ge 21, 3) := by decide +kernel
theorem dX8_spreadOdds_72 : decode cX8_spreadOdds 72 = .ok (.aload_n 0, 1) := by decide +kernel
theorem dX8_spreadOdds_73 : decode cX8_spreadOdds 73 = .ok (.iload 6, 2) := by decide +kernel
theorem dX8_spreadOdds_75 : decode cX8_spreadOdds 75 = .ok (.invokevirtual 312, 3) := by decide +kernel
theorem dX8_spreadOdds_78 : decode cX8_spreadOdds 78 = .ok (.lload_n 3, 1) := by decide +kernel
theorem dX8_spreadOdds_79 : decode cX8_spreadOdds 79 = .ok (.ldc2_w 316, 3) := by decide +kernel
theorem dX8_spreadOdds_82 : decode cX8_spreadOdds 82 = .ok (.lmul, 1) := by decide +kernel
theorem dX8_spreadOdds_83 : decode cX8_spreadOdds 83 = .ok (.lstore_n 3, 1) := by decide +kernel
theorem dX8_spreadOdds_84 : decode cX8_spreadOdds 84 = .ok (.iinc 6 1, 3) := by decide +kernel
theorem dX8_spreadOdds_87 : decode cX8_spreadOdds 87 = .ok (.goto (-24), 3) := by decide +kernel
theorem dX8_spreadOdds_90 : decode cX8_spreadOdds 90 = .ok (.aload_n 0, 1) := by decide +kernel
theorem dX8_spreadOdds_91 : decode cX8_spreadOdds 91 = .ok (.getfield 46, 3) := by decide +kernel
theorem dX8_spreadOdds_94 : decode cX8_spreadOdds 94 = .ok (.invokevirtual 241, 3) := by decide +kernel
theorem dX8_spreadOdds_97 : decode cX8_spreadOdds 97 = .ok (.iinc 5 1, 3) := by decide +kernel
theorem dX8_spreadOdds_100 : decode cX8_spreadOdds 100 = .ok (.goto (-46), 3) := by decide +kernel
theorem dX8_spreadOdds_103 : decode cX8_spreadOdds 103 = .ok (.lload_n 3, 1) := by decide +kernel
theorem dX8_spreadOdds_104 : decode cX8_spreadOdds 104 = .ok (.lreturn, 1) := by decide +kernel
theorem dX8_spreadBy_0 : decode cX8_spreadBy 0 = .ok (.aload_n 0, 1) := by decide +kernel
theorem dX8_spreadBy_1 : decode cX8_spreadBy 1 = .ok (.getfield 25, 3) := by decide +kernel
theorem dX8_spreadBy_4 : decode cX8_spreadBy 4 = .ok (.iload_n 1, 1) := by decide +kernel
theorem dX8_spreadBy_5 : decode cX8_spreadBy 5 = .ok (.aaload, 1) := by decide +kernel
theorem dX8_spreadBy_6 : decode cX8_spreadBy 6 = .ok (.astore_n 2, 1) := by decide +kernel
theorem dX8_spreadBy_7 : decode cX8_spreadBy 7 = .ok (.aload_n 2, 1) := by decide +kernel
theorem dX8_spreadBy_8 : decode cX8_spreadBy 8 = .ok (.aload_n 0, 1) := by decide +kernel
theorem dX8_spreadBy_9 : decode cX8_spreadBy 9 = .ok (.getfield 46, 3) := by decide +kernel
theorem dX8_spreadBy_12 : decode cX8_spreadBy 12 = .ok (.getfield 126, 3) := by decide +kernel
theorem dX8_spreadBy_15 : decode cX8_spreadBy 15 = .ok (.iload_n 1, 1) := by decide +kernel
theorem dX8_spreadBy_16 : decode cX8_spreadBy 16 = .ok (.baload, 1) := by decide +kernel
theorem dX8_spreadBy_17 : decode cX8_spreadBy 17 = .ok (.invokevirtual 287, 3) := by decide +kernel
theorem dX8_spreadBy_20 : decode cX8_spreadBy 20 = .ok (.istore_n 3, 1) := by decide +kernel
theorem dX8_spreadBy_21 : decode cX8_spreadBy 21 = .ok (.aload_n 2, 1) := by decide +kernel
theorem dX8_spreadBy_22 : decode cX8_spreadBy 22 = .ok (.aload_n 0, 1) := by decide +kernel
theorem dX8_spreadBy_23 : decode cX8_spreadBy 23 = .ok (.getfield 46, 3) := by decide +kernel
theorem dX8_spreadBy_26 : decode cX8_spreadBy 26 = .ok (.getfield 126, 3) := by decide +kernel
theorem dX8_spreadBy_29 : decode cX8_spreadBy 29 = .ok (.iload_n 1, 1) := by decide +kernel
theorem dX8_spreadBy_30 : decode cX8_spreadBy 30 = .ok (.baload, 1) := by decide +kernel
theorem dX8_spreadBy_31 : decode cX8_spreadBy 31 = .ok (.ifCond .ne 7, 3) := by decide +kernel
theorem dX8_spreadBy_34 : decode cX8_spreadBy 34 = .ok (.iconst 1, 1) := by decide +kernel
theorem dX8_spreadBy_35 : decode cX8_spreadBy 35 = .ok (.goto 4, 3) := by decide +kernel
theorem dX8_spreadBy_38 : decode cX8_spreadBy 38 = .ok (.iconst 0, 1) := by decide +kernel
theorem dX8_spreadBy_39 : decode cX8_spreadBy 39 = .ok (.invokevirtual 287, 3) := by decide +kernel
theorem dX8_spreadBy_42 : decode cX8_spreadBy 42 = .ok (.istore 4, 2) := by decide +kernel
theorem dX8_spreadBy_44 : decode cX8_spreadBy 44 = .ok (.aload_n 2, 1) := by decide +kernel
theorem dX8_spreadBy_45 : decode cX8_spreadBy 45 = .ok (.invokevirtual 294, 3) := by decide +kernel
theorem dX8_spreadBy_48 : decode cX8_spreadBy 48 = .ok (.ifCond .le 32, 3) := by decide +kernel
theorem dX8_spreadBy_51 : decode cX8_spreadBy 51 = .ok (.aload_n 2, 1) := by decide +kernel
theorem dX8_spreadBy_52 : decode cX8_spreadBy 52 = .ok (.aload_n 0, 1) := by decide +kernel
theorem dX8_spreadBy_53 : decode cX8_spreadBy 53 = .ok (.getfield 46, 3) := by decide +kernel
theorem dX8_spreadBy_56 : decode cX8_spreadBy 56 = .ok (.getfield 163, 3) := by decide +kernel
theorem dX8_spreadBy_59 : decode cX8_spreadBy 59 = .ok (.iload_n 3, 1) := by decide +kernel
theorem dX8_spreadBy_60 : decode cX8_spreadBy 60 = .ok (.baload, 1) := by decide +kernel
theorem dX8_spreadBy_61 : decode cX8_spreadBy 61 = .ok (.aload_n 0, 1) := by decide +kernel
theorem dX8_spreadBy_62 : decode cX8_spreadBy 62 = .ok (.getfield 46, 3) := by decide +kernel
theorem dX8_spreadBy_65 : decode cX8_spreadBy 65 = .ok (.getfield 160, 3) := by decide +kernel
theorem dX8_spreadBy_68 : decode cX8_spreadBy 68 = .ok (.iload_n 3, 1) := by decide +kernel
theorem dX8_spreadBy_69 : decode cX8_spreadBy 69 = .ok (.iaload, 1) := by decide +kernel
theorem dX8_spreadBy_70 : decode cX8_spreadBy 70 = .ok (.invokevirtual 290, 3) := by decide +kernel
theorem dX8_spreadBy_73 : decode cX8_spreadBy 73 = .ok (.ifCond .ne 7, 3) := by decide +kernel
theorem dX8_spreadBy_76 : decode cX8_spreadBy 76 = .ok (.iconst 1, 1) := by decide +kernel
theorem dX8_spreadBy_77 : decode cX8_spreadBy 77 = .ok (.goto 4, 3) := by decide +kernel
theorem dX8_spreadBy_80 : decode cX8_spreadBy 80 = .ok (.iconst 0, 1) := by decide +kernel
theorem dX8_spreadBy_81 : decode cX8_spreadBy 81 = .ok (.istore 5, 2) := by decide +kernel
theorem dX8_spreadBy_83 : decode cX8_spreadBy 83 = .ok (.iload 5, 2) := by decide +kernel
theorem dX8_spreadBy_85 : decode cX8_spreadBy 85 = .ok (.ifCond .eq 23, 3) := by decide +kernel
theorem dX8_spreadBy_88 : decode cX8_spreadBy 88 = .ok (.aload_n 0, 1) := by decide +kernel
theorem dX8_spreadBy_89 : decode cX8_spreadBy 89 = .ok (.getfield 49, 3) := by decide +kernel
theorem dX8_spreadBy_92 : decode cX8_spreadBy 92 = .ok (.iload_n 3, 1) := by decide +kernel
theorem dX8_spreadBy_93 : decode cX8_spreadBy 93 = .ok (.laload, 1) := by decide +kernel
theorem dX8_spreadBy_94 : decode cX8_spreadBy 94 = .ok (.aload_n 0, 1) := by decide +kernel
theorem dX8_spreadBy_95 : decode cX8_spreadBy 95 = .ok (.getfield 46, 3) := by decide +kernel
theorem dX8_spreadBy_98 : decode cX8_spreadBy 98 = .ok (.getfield 130, 3) := by decide +kernel
theorem dX8_spreadBy_101 : decode cX8_spreadBy 101 = .ok (.iload_n 1, 1) := by decide +kernel
theorem dX8_spreadBy_102 : decode cX8_spreadBy 102 = .ok (.iaload, 1) := by decide +kernel
theorem dX8_spreadBy_103 : decode cX8_spreadBy 103 = .ok (.i2l, 1) := by decide +kernel
theorem dX8_spreadBy_104 : decode cX8_spreadBy 104 = .ok (.lmul, 1) := by decide +kernel
theorem dX8_spreadBy_105 : decode cX8_spreadBy 105 = .ok (.goto 4, 3) := by decide +kernel
theorem dX8_spreadBy_108 : decode cX8_spreadBy 108 = .ok (.lconst 0, 1) := by decide +kernel
theorem dX8_spreadBy_109 : decode cX8_spreadBy 109 = .ok (.lstore 6, 2) := by decide +kernel
theorem dX8_spreadBy_111 : decode cX8_spreadBy 111 = .ok (.iconst 0, 1) := by decide +kernel
theorem dX8_spreadBy_112 : decode cX8_spreadBy 112 = .ok (.istore 8, 2) := by decide +kernel
theorem dX8_spreadBy_114 : decode cX8_spreadBy 114 = .ok (.iload 8, 2) := by decide +kernel
theorem dX8_spreadBy_116 : decode cX8_spreadBy 116 = .ok (.bipush 8, 2) := by decide +kernel
theorem dX8_spreadBy_118 : decode cX8_spreadBy 118 = .ok (.if_icmp .ge 22, 3) := by decide +kernel
theorem dX8_spreadBy_121 : decode cX8_spreadBy 121 = .ok (.aload_n 0, 1) := by decide +kernel
theorem dX8_spreadBy_122 : decode cX8_spreadBy 122 = .ok (.getfield 49, 3) := by decide +kernel
theorem dX8_spreadBy_125 : decode cX8_spreadBy 125 = .ok (.iload 8, 2) := by decide +kernel
theorem dX8_spreadBy_127 : decode cX8_spreadBy 127 = .ok (.dup2, 1) := by decide +kernel
theorem dX8_spreadBy_128 : decode cX8_spreadBy 128 = .ok (.laload, 1) := by decide +kernel
theorem dX8_spreadBy_129 : decode cX8_spreadBy 129 = .ok (.ldc2_w 316, 3) := by decide +kernel
theorem dX8_spreadBy_132 : decode cX8_spreadBy 132 = .ok (.lmul, 1) := by decide +kernel
theorem dX8_spreadBy_133 : decode cX8_spreadBy 133 = .ok (.lastore, 1) := by decide +kernel
theorem dX8_spreadBy_134 : decode cX8_spreadBy 134 = .ok (.iinc 8 1, 3) := by decide +kernel
theorem dX8_spreadBy_137 : decode cX8_spreadBy 137 = .ok (.goto (-23), 3) := by decide +kernel
theorem dX8_spreadBy_140 : decode cX8_spreadBy 140 = .ok (.aload_n 0, 1) := by decide +kernel
theorem dX8_spreadBy_141 : decode cX8_spreadBy 141 = .ok (.getfield 49, 3) := by decide +kernel
theorem dX8_spreadBy_144 : decode cX8_spreadBy 144 = .ok (.iload_n 3, 1) := by decide +kernel
theorem dX8_spreadBy_145 : decode cX8_spreadBy 145 = .ok (.dup2, 1) := by decide +kernel
theorem dX8_spreadBy_146 : decode cX8_spreadBy 146 = .ok (.laload, 1) := by decide +kernel
theorem dX8_spreadBy_147 : decode cX8_spreadBy 147 = .ok (.lload 6, 2) := by decide +kernel
theorem dX8_spreadBy_149 : decode cX8_spreadBy 149 = .ok (.lsub, 1) := by decide +kernel
theorem dX8_spreadBy_150 : decode cX8_spreadBy 150 = .ok (.lastore, 1) := by decide +kernel
theorem dX8_spreadBy_151 : decode cX8_spreadBy 151 = .ok (.aload_n 0, 1) := by decide +kernel
theorem dX8_spreadBy_152 : decode cX8_spreadBy 152 = .ok (.getfield 49, 3) := by decide +kernel
theorem dX8_spreadBy_155 : decode cX8_spreadBy 155 = .ok (.iload 4, 2) := by decide +kernel
theorem dX8_spreadBy_157 : decode cX8_spreadBy 157 = .ok (.dup2, 1) := by decide +kernel
theorem dX8_spreadBy_158 : decode cX8_spreadBy 158 = .ok (.laload, 1) := by decide +kernel
theorem dX8_spreadBy_159 : decode cX8_spreadBy 159 = .ok (.lload 6, 2) := by decide +kernel
theorem dX8_spreadBy_161 : decode cX8_spreadBy 161 = .ok (.ladd, 1) := by decide +kernel
theorem dX8_spreadBy_162 : decode cX8_spreadBy 162 = .ok (.lastore, 1) := by decide +kernel
theorem dX8_spreadBy_163 : decode cX8_spreadBy 163 = .ok (.return_, 1) := by decide +kernel
theorem dX8_greatestDivisor_0 : decode cX8_greatestDivisor 0 = .ok (.iconst 0, 1) := by decide +kernel
theorem dX8_greatestDivisor_1 : decode cX8_greatestDivisor 1 = .ok (.istore 4, 2) := by decide +kernel
theorem dX8_greatestDivisor_3 : decode cX8_greatestDivisor 3 = .ok (.iload 4, 2) := by decide +kernel
theorem dX8_greatestDivisor_5 : decode cX8_greatestDivisor 5 = .ok (.sipush 200, 3) := by decide +kernel
theorem dX8_greatestDivisor_8 : decode cX8_greatestDivisor 8 = .ok (.if_icmp .ge 25, 3) := by decide +kernel
theorem dX8_greatestDivisor_11 : decode cX8_greatestDivisor 11 = .ok (.lload_n 2, 1) := by decide +kernel
theorem dX8_greatestDivisor_12 : decode cX8_greatestDivisor 12 = .ok (.lconst 0, 1) := by decide +kernel
theorem dX8_greatestDivisor_13 : decode cX8_greatestDivisor 13 = .ok (.lcmp, 1) := by decide +kernel
theorem dX8_greatestDivisor_14 : decode cX8_greatestDivisor 14 = .ok (.ifCond .eq 19, 3) := by decide +kernel
theorem dX8_greatestDivisor_17 : decode cX8_greatestDivisor 17 = .ok (.lload_n 0, 1) := by decide +kernel
theorem dX8_greatestDivisor_18 : decode cX8_greatestDivisor 18 = .ok (.lload_n 2, 1) := by decide +kernel
theorem dX8_greatestDivisor_19 : decode cX8_greatestDivisor 19 = .ok (.lrem, 1) := by decide +kernel
theorem dX8_greatestDivisor_20 : decode cX8_greatestDivisor 20 = .ok (.lstore 5, 2) := by decide +kernel
theorem dX8_greatestDivisor_22 : decode cX8_greatestDivisor 22 = .ok (.lload_n 2, 1) := by decide +kernel
theorem dX8_greatestDivisor_23 : decode cX8_greatestDivisor 23 = .ok (.lstore_n 0, 1) := by decide +kernel
theorem dX8_greatestDivisor_24 : decode cX8_greatestDivisor 24 = .ok (.lload 5, 2) := by decide +kernel
theorem dX8_greatestDivisor_26 : decode cX8_greatestDivisor 26 = .ok (.lstore_n 2, 1) := by decide +kernel
theorem dX8_greatestDivisor_27 : decode cX8_greatestDivisor 27 = .ok (.iinc 4 1, 3) := by decide +kernel
theorem dX8_greatestDivisor_30 : decode cX8_greatestDivisor 30 = .ok (.goto (-27), 3) := by decide +kernel
theorem dX8_greatestDivisor_33 : decode cX8_greatestDivisor 33 = .ok (.lload_n 0, 1) := by decide +kernel
theorem dX8_greatestDivisor_34 : decode cX8_greatestDivisor 34 = .ok (.lreturn, 1) := by decide +kernel
theorem dX8_bestSet_0 : decode cX8_bestSet 0 = .ok (.aload_n 0, 1) := by decide +kernel
theorem dX8_bestSet_1 : decode cX8_bestSet 1 = .ok (.iload_n 1, 1) := by decide +kernel
theorem dX8_bestSet_2 : decode cX8_bestSet 2 = .ok (.invokevirtual 318, 3) := by decide +kernel
theorem dX8_bestSet_5 : decode cX8_bestSet 5 = .ok (.istore_n 3, 1) := by decide +kernel
theorem dX8_bestSet_6 : decode cX8_bestSet 6 = .ok (.iconst 0, 1) := by decide +kernel
theorem dX8_bestSet_7 : decode cX8_bestSet 7 = .ok (.istore 4, 2) := by decide +kernel
theorem dX8_bestSet_9 : decode cX8_bestSet 9 = .ok (.aload_n 0, 1) := by decide +kernel
theorem dX8_bestSet_10 : decode cX8_bestSet 10 = .ok (.iload_n 1, 1) := by decide +kernel
theorem dX8_bestSet_11 : decode cX8_bestSet 11 = .ok (.iload_n 2, 1) := by decide +kernel
theorem dX8_bestSet_12 : decode cX8_bestSet 12 = .ok (.iconst 0, 1) := by decide +kernel
theorem dX8_bestSet_13 : decode cX8_bestSet 13 = .ok (.invokevirtual 213, 3) := by decide +kernel
theorem dX8_bestSet_16 : decode cX8_bestSet 16 = .ok (.istore 5, 2) := by decide +kernel
theorem dX8_bestSet_18 : decode cX8_bestSet 18 = .ok (.iconst 1, 1) := by decide +kernel
theorem dX8_bestSet_19 : decode cX8_bestSet 19 = .ok (.istore 6, 2) := by decide +kernel
theorem dX8_bestSet_21 : decode cX8_bestSet 21 = .ok (.iload 6, 2) := by decide +kernel
theorem dX8_bestSet_23 : decode cX8_bestSet 23 = .ok (.iconst 1, 1) := by decide +kernel
theorem dX8_bestSet_24 : decode cX8_bestSet 24 = .ok (.aload_n 0, 1) := by decide +kernel
theorem dX8_bestSet_25 : decode cX8_bestSet 25 = .ok (.getfield 62, 3) := by decide +kernel
theorem dX8_bestSet_28 : decode cX8_bestSet 28 = .ok (.ishl, 1) := by decide +kernel
theorem dX8_bestSet_29 : decode cX8_bestSet 29 = .ok (.if_icmp .ge 63, 3) := by decide +kernel
theorem dX8_bestSet_32 : decode cX8_bestSet 32 = .ok (.iload 6, 2) := by decide +kernel
theorem dX8_bestSet_34 : decode cX8_bestSet 34 = .ok (.iload_n 3, 1) := by decide +kernel
theorem dX8_bestSet_35 : decode cX8_bestSet 35 = .ok (.iconst (-1), 1) := by decide +kernel
theorem dX8_bestSet_36 : decode cX8_bestSet 36 = .ok (.ixor, 1) := by decide +kernel
theorem dX8_bestSet_37 : decode cX8_bestSet 37 = .ok (.iand, 1) := by decide +kernel
theorem dX8_bestSet_38 : decode cX8_bestSet 38 = .ok (.ifCond .ne 48, 3) := by decide +kernel
theorem dX8_bestSet_41 : decode cX8_bestSet 41 = .ok (.aload_n 0, 1) := by decide +kernel
theorem dX8_bestSet_42 : decode cX8_bestSet 42 = .ok (.iload_n 1, 1) := by decide +kernel
theorem dX8_bestSet_43 : decode cX8_bestSet 43 = .ok (.iload_n 2, 1) := by decide +kernel
theorem dX8_bestSet_44 : decode cX8_bestSet 44 = .ok (.iload 6, 2) := by decide +kernel
theorem dX8_bestSet_46 : decode cX8_bestSet 46 = .ok (.invokevirtual 213, 3) := by decide +kernel
theorem dX8_bestSet_49 : decode cX8_bestSet 49 = .ok (.istore 7, 2) := by decide +kernel
theorem dX8_bestSet_51 : decode cX8_bestSet 51 = .ok (.iload 7, 2) := by decide +kernel
theorem dX8_bestSet_53 : decode cX8_bestSet 53 = .ok (.iload 5, 2) := by decide +kernel
theorem dX8_bestSet_55 : decode cX8_bestSet 55 = .ok (.if_icmp .gt 23, 3) := by decide +kernel
theorem dX8_bestSet_58 : decode cX8_bestSet 58 = .ok (.iload 7, 2) := by decide +kernel
theorem dX8_bestSet_60 : decode cX8_bestSet 60 = .ok (.iload 5, 2) := by decide +kernel
theorem dX8_bestSet_62 : decode cX8_bestSet 62 = .ok (.if_icmp .ne 24, 3) := by decide +kernel
theorem dX8_bestSet_65 : decode cX8_bestSet 65 = .ok (.iload 6, 2) := by decide +kernel
theorem dX8_bestSet_67 : decode cX8_bestSet 67 = .ok (.invokestatic 321, 3) := by decide +kernel
theorem dX8_bestSet_70 : decode cX8_bestSet 70 = .ok (.iload 4, 2) := by decide +kernel
theorem dX8_bestSet_72 : decode cX8_bestSet 72 = .ok (.invokestatic 321, 3) := by decide +kernel
theorem dX8_bestSet_75 : decode cX8_bestSet 75 = .ok (.if_icmp .ge 11, 3) := by decide +kernel
theorem dX8_bestSet_78 : decode cX8_bestSet 78 = .ok (.iload 6, 2) := by decide +kernel
theorem dX8_bestSet_80 : decode cX8_bestSet 80 = .ok (.istore 4, 2) := by decide +kernel
theorem dX8_bestSet_82 : decode cX8_bestSet 82 = .ok (.iload 7, 2) := by decide +kernel
theorem dX8_bestSet_84 : decode cX8_bestSet 84 = .ok (.istore 5, 2) := by decide +kernel
theorem dX8_bestSet_86 : decode cX8_bestSet 86 = .ok (.iinc 6 1, 3) := by decide +kernel
theorem dX8_bestSet_89 : decode cX8_bestSet 89 = .ok (.goto (-68), 3) := by decide +kernel
theorem dX8_bestSet_92 : decode cX8_bestSet 92 = .ok (.iload 4, 2) := by decide +kernel
theorem dX8_bestSet_94 : decode cX8_bestSet 94 = .ok (.ireturn, 1) := by decide +kernel
theorem dX8_couldBePaidBy_0 : decode cX8_couldBePaidBy 0 = .ok (.iconst 0, 1) := by decide +kernel
theorem dX8_couldBePaidBy_1 : decode cX8_couldBePaidBy 1 = .ok (.istore_n 2, 1) := by decide +kernel
theorem dX8_couldBePaidBy_2 : decode cX8_couldBePaidBy 2 = .ok (.iconst 0, 1) := by decide +kernel
theorem dX8_couldBePaidBy_3 : decode cX8_couldBePaidBy 3 = .ok (.istore_n 3, 1) := by decide +kernel
theorem dX8_couldBePaidBy_4 : decode cX8_couldBePaidBy 4 = .ok (.iload_n 3, 1) := by decide +kernel
theorem dX8_couldBePaidBy_5 : decode cX8_couldBePaidBy 5 = .ok (.aload_n 0, 1) := by decide +kernel
theorem dX8_couldBePaidBy_6 : decode cX8_couldBePaidBy 6 = .ok (.getfield 62, 3) := by decide +kernel
theorem dX8_couldBePaidBy_9 : decode cX8_couldBePaidBy 9 = .ok (.if_icmp .ge 32, 3) := by decide +kernel
theorem dX8_couldBePaidBy_12 : decode cX8_couldBePaidBy 12 = .ok (.iload_n 2, 1) := by decide +kernel
theorem dX8_couldBePaidBy_13 : decode cX8_couldBePaidBy 13 = .ok (.aload_n 0, 1) := by decide +kernel
theorem dX8_couldBePaidBy_14 : decode cX8_couldBePaidBy 14 = .ok (.getfield 25, 3) := by decide +kernel
theorem dX8_couldBePaidBy_17 : decode cX8_couldBePaidBy 17 = .ok (.iload_n 3, 1) := by decide +kernel
theorem dX8_couldBePaidBy_18 : decode cX8_couldBePaidBy 18 = .ok (.aaload, 1) := by decide +kernel
theorem dX8_couldBePaidBy_19 : decode cX8_couldBePaidBy 19 = .ok (.getfield 141, 3) := by decide +kernel
theorem dX8_couldBePaidBy_22 : decode cX8_couldBePaidBy 22 = .ok (.iload_n 1, 1) := by decide +kernel
theorem dX8_couldBePaidBy_23 : decode cX8_couldBePaidBy 23 = .ok (.if_icmp .ne 9, 3) := by decide +kernel
theorem dX8_couldBePaidBy_26 : decode cX8_couldBePaidBy 26 = .ok (.iconst 1, 1) := by decide +kernel
theorem dX8_couldBePaidBy_27 : decode cX8_couldBePaidBy 27 = .ok (.iload_n 3, 1) := by decide +kernel
theorem dX8_couldBePaidBy_28 : decode cX8_couldBePaidBy 28 = .ok (.ishl, 1) := by decide +kernel
theorem dX8_couldBePaidBy_29 : decode cX8_couldBePaidBy 29 = .ok (.goto 4, 3) := by decide +kernel
theorem dX8_couldBePaidBy_32 : decode cX8_couldBePaidBy 32 = .ok (.iconst 0, 1) := by decide +kernel
theorem dX8_couldBePaidBy_33 : decode cX8_couldBePaidBy 33 = .ok (.ior, 1) := by decide +kernel
theorem dX8_couldBePaidBy_34 : decode cX8_couldBePaidBy 34 = .ok (.istore_n 2, 1) := by decide +kernel
end
section
theorem dX8_couldBePaidBy_35 : decode cX8_couldBePaidBy 35 = .ok (.iinc 3 1, 3) := by decide +kernel
theorem dX8_couldBePaidBy_38 : decode cX8_couldBePaidBy 38 = .ok (.goto (-34), 3) := by decide +kernel
theorem dX8_couldBePaidBy_41 : decode cX8_couldBePaidBy 41 = .ok (.iload_n 2, 1) := by decide +kernel
theorem dX8_couldBePaidBy_42 : decode cX8_couldBePaidBy 42 = .ok (.ireturn, 1) := by decide +kernel
theorem dX8_leftBy_0 : decode cX8_leftBy 0 = .ok (.aload_n 0, 1) := by decide +kernel
theorem dX8_leftBy_1 : decode cX8_leftBy 1 = .ok (.getfield 46, 3) := by decide +kernel
theorem dX8_leftBy_4 : decode cX8_leftBy 4 = .ok (.aload_n 0, 1) := by decide +kernel
theorem dX8_leftBy_5 : decode cX8_leftBy 5 = .ok (.getfield 39, 3) := by decide +kernel
theorem dX8_leftBy_8 : decode cX8_leftBy 8 = .ok (.invokevirtual 188, 3) := by decide +kernel
theorem dX8_leftBy_11 : decode cX8_leftBy 11 = .ok (.iconst 0, 1) := by decide +kernel
theorem dX8_leftBy_12 : decode cX8_leftBy 12 = .ok (.istore 4, 2) := by decide +kernel
theorem dX8_leftBy_14 : decode cX8_leftBy 14 = .ok (.iconst 0, 1) := by decide +kernel
theorem dX8_leftBy_15 : decode cX8_leftBy 15 = .ok (.istore 5, 2) := by decide +kernel
theorem dX8_leftBy_17 : decode cX8_leftBy 17 = .ok (.iload 5, 2) := by decide +kernel
theorem dX8_leftBy_19 : decode cX8_leftBy 19 = .ok (.aload_n 0, 1) := by decide +kernel
theorem dX8_leftBy_20 : decode cX8_leftBy 20 = .ok (.getfield 62, 3) := by decide +kernel
theorem dX8_leftBy_23 : decode cX8_leftBy 23 = .ok (.if_icmp .ge 80, 3) := by decide +kernel
theorem dX8_leftBy_26 : decode cX8_leftBy 26 = .ok (.aload_n 0, 1) := by decide +kernel
theorem dX8_leftBy_27 : decode cX8_leftBy 27 = .ok (.getfield 25, 3) := by decide +kernel
theorem dX8_leftBy_30 : decode cX8_leftBy 30 = .ok (.iload 5, 2) := by decide +kernel
theorem dX8_leftBy_32 : decode cX8_leftBy 32 = .ok (.aaload, 1) := by decide +kernel
theorem dX8_leftBy_33 : decode cX8_leftBy 33 = .ok (.getfield 141, 3) := by decide +kernel
theorem dX8_leftBy_36 : decode cX8_leftBy 36 = .ok (.iload_n 1, 1) := by decide +kernel
theorem dX8_leftBy_37 : decode cX8_leftBy 37 = .ok (.if_icmp .ne 60, 3) := by decide +kernel
theorem dX8_leftBy_40 : decode cX8_leftBy 40 = .ok (.aload_n 0, 1) := by decide +kernel
theorem dX8_leftBy_41 : decode cX8_leftBy 41 = .ok (.getfield 46, 3) := by decide +kernel
theorem dX8_leftBy_44 : decode cX8_leftBy 44 = .ok (.getfield 126, 3) := by decide +kernel
theorem dX8_leftBy_47 : decode cX8_leftBy 47 = .ok (.iload 5, 2) := by decide +kernel
theorem dX8_leftBy_49 : decode cX8_leftBy 49 = .ok (.iload_n 3, 1) := by decide +kernel
theorem dX8_leftBy_50 : decode cX8_leftBy 50 = .ok (.iload 5, 2) := by decide +kernel
theorem dX8_leftBy_52 : decode cX8_leftBy 52 = .ok (.ishr, 1) := by decide +kernel
theorem dX8_leftBy_53 : decode cX8_leftBy 53 = .ok (.iconst 1, 1) := by decide +kernel
theorem dX8_leftBy_54 : decode cX8_leftBy 54 = .ok (.iand, 1) := by decide +kernel
theorem dX8_leftBy_55 : decode cX8_leftBy 55 = .ok (.iconst 1, 1) := by decide +kernel
theorem dX8_leftBy_56 : decode cX8_leftBy 56 = .ok (.if_icmp .ne 7, 3) := by decide +kernel
theorem dX8_leftBy_59 : decode cX8_leftBy 59 = .ok (.iconst 1, 1) := by decide +kernel
theorem dX8_leftBy_60 : decode cX8_leftBy 60 = .ok (.goto 4, 3) := by decide +kernel
theorem dX8_leftBy_63 : decode cX8_leftBy 63 = .ok (.iconst 0, 1) := by decide +kernel
theorem dX8_leftBy_64 : decode cX8_leftBy 64 = .ok (.bastore, 1) := by decide +kernel
theorem dX8_leftBy_65 : decode cX8_leftBy 65 = .ok (.iload 4, 2) := by decide +kernel
theorem dX8_leftBy_67 : decode cX8_leftBy 67 = .ok (.aload_n 0, 1) := by decide +kernel
theorem dX8_leftBy_68 : decode cX8_leftBy 68 = .ok (.getfield 46, 3) := by decide +kernel
theorem dX8_leftBy_71 : decode cX8_leftBy 71 = .ok (.getfield 126, 3) := by decide +kernel
theorem dX8_leftBy_74 : decode cX8_leftBy 74 = .ok (.iload 5, 2) := by decide +kernel
theorem dX8_leftBy_76 : decode cX8_leftBy 76 = .ok (.baload, 1) := by decide +kernel
theorem dX8_leftBy_77 : decode cX8_leftBy 77 = .ok (.ifCond .eq 16, 3) := by decide +kernel
theorem dX8_leftBy_80 : decode cX8_leftBy 80 = .ok (.aload_n 0, 1) := by decide +kernel
theorem dX8_leftBy_81 : decode cX8_leftBy 81 = .ok (.getfield 25, 3) := by decide +kernel
theorem dX8_leftBy_84 : decode cX8_leftBy 84 = .ok (.iload 5, 2) := by decide +kernel
theorem dX8_leftBy_86 : decode cX8_leftBy 86 = .ok (.aaload, 1) := by decide +kernel
theorem dX8_leftBy_87 : decode cX8_leftBy 87 = .ok (.getfield 146, 3) := by decide +kernel
theorem dX8_leftBy_90 : decode cX8_leftBy 90 = .ok (.goto 4, 3) := by decide +kernel
theorem dX8_leftBy_93 : decode cX8_leftBy 93 = .ok (.iconst 0, 1) := by decide +kernel
theorem dX8_leftBy_94 : decode cX8_leftBy 94 = .ok (.iadd, 1) := by decide +kernel
theorem dX8_leftBy_95 : decode cX8_leftBy 95 = .ok (.istore 4, 2) := by decide +kernel
theorem dX8_leftBy_97 : decode cX8_leftBy 97 = .ok (.iinc 5 1, 3) := by decide +kernel
theorem dX8_leftBy_100 : decode cX8_leftBy 100 = .ok (.goto (-83), 3) := by decide +kernel
theorem dX8_leftBy_103 : decode cX8_leftBy 103 = .ok (.iconst 0, 1) := by decide +kernel
theorem dX8_leftBy_104 : decode cX8_leftBy 104 = .ok (.istore 5, 2) := by decide +kernel
theorem dX8_leftBy_106 : decode cX8_leftBy 106 = .ok (.iload 5, 2) := by decide +kernel
theorem dX8_leftBy_108 : decode cX8_leftBy 108 = .ok (.iload_n 2, 1) := by decide +kernel
theorem dX8_leftBy_109 : decode cX8_leftBy 109 = .ok (.if_icmp .ge 19, 3) := by decide +kernel
theorem dX8_leftBy_112 : decode cX8_leftBy 112 = .ok (.aload_n 0, 1) := by decide +kernel
theorem dX8_leftBy_113 : decode cX8_leftBy 113 = .ok (.aload_n 0, 1) := by decide +kernel
theorem dX8_leftBy_114 : decode cX8_leftBy 114 = .ok (.getfield 46, 3) := by decide +kernel
theorem dX8_leftBy_117 : decode cX8_leftBy 117 = .ok (.iconst (-1), 1) := by decide +kernel
theorem dX8_leftBy_118 : decode cX8_leftBy 118 = .ok (.invokevirtual 185, 3) := by decide +kernel
theorem dX8_leftBy_121 : decode cX8_leftBy 121 = .ok (.pop, 1) := by decide +kernel
theorem dX8_leftBy_122 : decode cX8_leftBy 122 = .ok (.iinc 5 1, 3) := by decide +kernel
theorem dX8_leftBy_125 : decode cX8_leftBy 125 = .ok (.goto (-19), 3) := by decide +kernel
theorem dX8_leftBy_128 : decode cX8_leftBy 128 = .ok (.aload_n 0, 1) := by decide +kernel
theorem dX8_leftBy_129 : decode cX8_leftBy 129 = .ok (.aload_n 0, 1) := by decide +kernel
theorem dX8_leftBy_130 : decode cX8_leftBy 130 = .ok (.getfield 46, 3) := by decide +kernel
theorem dX8_leftBy_133 : decode cX8_leftBy 133 = .ok (.iload_n 1, 1) := by decide +kernel
theorem dX8_leftBy_134 : decode cX8_leftBy 134 = .ok (.invokevirtual 175, 3) := by decide +kernel
theorem dX8_leftBy_137 : decode cX8_leftBy 137 = .ok (.iload 4, 2) := by decide +kernel
theorem dX8_leftBy_139 : decode cX8_leftBy 139 = .ok (.iload_n 2, 1) := by decide +kernel
theorem dX8_leftBy_140 : decode cX8_leftBy 140 = .ok (.imul, 1) := by decide +kernel
theorem dX8_leftBy_141 : decode cX8_leftBy 141 = .ok (.isub, 1) := by decide +kernel
theorem dX8_leftBy_142 : decode cX8_leftBy 142 = .ok (.ireturn, 1) := by decide +kernel
theorem dX8_wouldBeAsSeen_0 : decode cX8_wouldBeAsSeen 0 = .ok (.aload_n 0, 1) := by decide +kernel
theorem dX8_wouldBeAsSeen_1 : decode cX8_wouldBeAsSeen 1 = .ok (.getfield 46, 3) := by decide +kernel
theorem dX8_wouldBeAsSeen_4 : decode cX8_wouldBeAsSeen 4 = .ok (.aload_n 0, 1) := by decide +kernel
theorem dX8_wouldBeAsSeen_5 : decode cX8_wouldBeAsSeen 5 = .ok (.getfield 39, 3) := by decide +kernel
theorem dX8_wouldBeAsSeen_8 : decode cX8_wouldBeAsSeen 8 = .ok (.invokevirtual 188, 3) := by decide +kernel
theorem dX8_wouldBeAsSeen_11 : decode cX8_wouldBeAsSeen 11 = .ok (.aload_n 0, 1) := by decide +kernel
theorem dX8_wouldBeAsSeen_12 : decode cX8_wouldBeAsSeen 12 = .ok (.aload_n 0, 1) := by decide +kernel
theorem dX8_wouldBeAsSeen_13 : decode cX8_wouldBeAsSeen 13 = .ok (.getfield 46, 3) := by decide +kernel
theorem dX8_wouldBeAsSeen_16 : decode cX8_wouldBeAsSeen 16 = .ok (.iload_n 1, 1) := by decide +kernel
theorem dX8_wouldBeAsSeen_17 : decode cX8_wouldBeAsSeen 17 = .ok (.invokevirtual 185, 3) := by decide +kernel
theorem dX8_wouldBeAsSeen_20 : decode cX8_wouldBeAsSeen 20 = .ok (.pop, 1) := by decide +kernel
theorem dX8_wouldBeAsSeen_21 : decode cX8_wouldBeAsSeen 21 = .ok (.iconst 0, 1) := by decide +kernel
theorem dX8_wouldBeAsSeen_22 : decode cX8_wouldBeAsSeen 22 = .ok (.istore_n 2, 1) := by decide +kernel
theorem dX8_wouldBeAsSeen_23 : decode cX8_wouldBeAsSeen 23 = .ok (.iload_n 2, 1) := by decide +kernel
theorem dX8_wouldBeAsSeen_24 : decode cX8_wouldBeAsSeen 24 = .ok (.aload_n 0, 1) := by decide +kernel
theorem dX8_wouldBeAsSeen_25 : decode cX8_wouldBeAsSeen 25 = .ok (.getfield 66, 3) := by decide +kernel
theorem dX8_wouldBeAsSeen_28 : decode cX8_wouldBeAsSeen 28 = .ok (.if_icmp .ge 45, 3) := by decide +kernel
theorem dX8_wouldBeAsSeen_31 : decode cX8_wouldBeAsSeen 31 = .ok (.aload_n 0, 1) := by decide +kernel
theorem dX8_wouldBeAsSeen_32 : decode cX8_wouldBeAsSeen 32 = .ok (.getfield 46, 3) := by decide +kernel
theorem dX8_wouldBeAsSeen_35 : decode cX8_wouldBeAsSeen 35 = .ok (.getfield 169, 3) := by decide +kernel
theorem dX8_wouldBeAsSeen_38 : decode cX8_wouldBeAsSeen 38 = .ok (.iload_n 2, 1) := by decide +kernel
theorem dX8_wouldBeAsSeen_39 : decode cX8_wouldBeAsSeen 39 = .ok (.iaload, 1) := by decide +kernel
theorem dX8_wouldBeAsSeen_40 : decode cX8_wouldBeAsSeen 40 = .ok (.iconst (-1), 1) := by decide +kernel
theorem dX8_wouldBeAsSeen_41 : decode cX8_wouldBeAsSeen 41 = .ok (.if_icmp .eq 26, 3) := by decide +kernel
theorem dX8_wouldBeAsSeen_44 : decode cX8_wouldBeAsSeen 44 = .ok (.aload_n 0, 1) := by decide +kernel
theorem dX8_wouldBeAsSeen_45 : decode cX8_wouldBeAsSeen 45 = .ok (.getfield 46, 3) := by decide +kernel
theorem dX8_wouldBeAsSeen_48 : decode cX8_wouldBeAsSeen 48 = .ok (.getfield 169, 3) := by decide +kernel
theorem dX8_wouldBeAsSeen_51 : decode cX8_wouldBeAsSeen 51 = .ok (.iload_n 2, 1) := by decide +kernel
theorem dX8_wouldBeAsSeen_52 : decode cX8_wouldBeAsSeen 52 = .ok (.iaload, 1) := by decide +kernel
theorem dX8_wouldBeAsSeen_53 : decode cX8_wouldBeAsSeen 53 = .ok (.aload_n 0, 1) := by decide +kernel
theorem dX8_wouldBeAsSeen_54 : decode cX8_wouldBeAsSeen 54 = .ok (.getfield 46, 3) := by decide +kernel
theorem dX8_wouldBeAsSeen_57 : decode cX8_wouldBeAsSeen 57 = .ok (.getfield 166, 3) := by decide +kernel
theorem dX8_wouldBeAsSeen_60 : decode cX8_wouldBeAsSeen 60 = .ok (.iload_n 2, 1) := by decide +kernel
theorem dX8_wouldBeAsSeen_61 : decode cX8_wouldBeAsSeen 61 = .ok (.iaload, 1) := by decide +kernel
theorem dX8_wouldBeAsSeen_62 : decode cX8_wouldBeAsSeen 62 = .ok (.if_icmp .eq 5, 3) := by decide +kernel
theorem dX8_wouldBeAsSeen_65 : decode cX8_wouldBeAsSeen 65 = .ok (.iconst 0, 1) := by decide +kernel
theorem dX8_wouldBeAsSeen_66 : decode cX8_wouldBeAsSeen 66 = .ok (.ireturn, 1) := by decide +kernel
theorem dX8_wouldBeAsSeen_67 : decode cX8_wouldBeAsSeen 67 = .ok (.iinc 2 1, 3) := by decide +kernel
theorem dX8_wouldBeAsSeen_70 : decode cX8_wouldBeAsSeen 70 = .ok (.goto (-47), 3) := by decide +kernel
theorem dX8_wouldBeAsSeen_73 : decode cX8_wouldBeAsSeen 73 = .ok (.iconst 1, 1) := by decide +kernel
theorem dX8_wouldBeAsSeen_74 : decode cX8_wouldBeAsSeen 74 = .ok (.ireturn, 1) := by decide +kernel
theorem dX8_netAll_0 : decode cX8_netAll 0 = .ok (.iconst 0, 1) := by decide +kernel
theorem dX8_netAll_1 : decode cX8_netAll 1 = .ok (.istore_n 1, 1) := by decide +kernel
theorem dX8_netAll_2 : decode cX8_netAll 2 = .ok (.iload_n 1, 1) := by decide +kernel
theorem dX8_netAll_3 : decode cX8_netAll 3 = .ok (.bipush 8, 2) := by decide +kernel
theorem dX8_netAll_5 : decode cX8_netAll 5 = .ok (.if_icmp .ge 16, 3) := by decide +kernel
theorem dX8_netAll_8 : decode cX8_netAll 8 = .ok (.aload_n 0, 1) := by decide +kernel
theorem dX8_netAll_9 : decode cX8_netAll 9 = .ok (.getfield 53, 3) := by decide +kernel
theorem dX8_netAll_12 : decode cX8_netAll 12 = .ok (.iload_n 1, 1) := by decide +kernel
theorem dX8_netAll_13 : decode cX8_netAll 13 = .ok (.iconst 0, 1) := by decide +kernel
theorem dX8_netAll_14 : decode cX8_netAll 14 = .ok (.iastore, 1) := by decide +kernel
theorem dX8_netAll_15 : decode cX8_netAll 15 = .ok (.iinc 1 1, 3) := by decide +kernel
theorem dX8_netAll_18 : decode cX8_netAll 18 = .ok (.goto (-16), 3) := by decide +kernel
theorem dX8_netAll_21 : decode cX8_netAll 21 = .ok (.iconst 0, 1) := by decide +kernel
theorem dX8_netAll_22 : decode cX8_netAll 22 = .ok (.istore_n 1, 1) := by decide +kernel
theorem dX8_netAll_23 : decode cX8_netAll 23 = .ok (.iload_n 1, 1) := by decide +kernel
theorem dX8_netAll_24 : decode cX8_netAll 24 = .ok (.aload_n 0, 1) := by decide +kernel
theorem dX8_netAll_25 : decode cX8_netAll 25 = .ok (.getfield 66, 3) := by decide +kernel
theorem dX8_netAll_28 : decode cX8_netAll 28 = .ok (.if_icmp .ge 52, 3) := by decide +kernel
theorem dX8_netAll_31 : decode cX8_netAll 31 = .ok (.aload_n 0, 1) := by decide +kernel
theorem dX8_netAll_32 : decode cX8_netAll 32 = .ok (.getfield 53, 3) := by decide +kernel
theorem dX8_netAll_35 : decode cX8_netAll 35 = .ok (.aload_n 0, 1) := by decide +kernel
theorem dX8_netAll_36 : decode cX8_netAll 36 = .ok (.getfield 33, 3) := by decide +kernel
theorem dX8_netAll_39 : decode cX8_netAll 39 = .ok (.iload_n 1, 1) := by decide +kernel
theorem dX8_netAll_40 : decode cX8_netAll 40 = .ok (.iaload, 1) := by decide +kernel
theorem dX8_netAll_41 : decode cX8_netAll 41 = .ok (.dup2, 1) := by decide +kernel
theorem dX8_netAll_42 : decode cX8_netAll 42 = .ok (.iaload, 1) := by decide +kernel
theorem dX8_netAll_43 : decode cX8_netAll 43 = .ok (.aload_n 0, 1) := by decide +kernel
theorem dX8_netAll_44 : decode cX8_netAll 44 = .ok (.getfield 29, 3) := by decide +kernel
theorem dX8_netAll_47 : decode cX8_netAll 47 = .ok (.iload_n 1, 1) := by decide +kernel
theorem dX8_netAll_48 : decode cX8_netAll 48 = .ok (.iaload, 1) := by decide +kernel
theorem dX8_netAll_49 : decode cX8_netAll 49 = .ok (.iadd, 1) := by decide +kernel
theorem dX8_netAll_50 : decode cX8_netAll 50 = .ok (.iastore, 1) := by decide +kernel
theorem dX8_netAll_51 : decode cX8_netAll 51 = .ok (.aload_n 0, 1) := by decide +kernel
theorem dX8_netAll_52 : decode cX8_netAll 52 = .ok (.getfield 53, 3) := by decide +kernel
theorem dX8_netAll_55 : decode cX8_netAll 55 = .ok (.aload_n 0, 1) := by decide +kernel
theorem dX8_netAll_56 : decode cX8_netAll 56 = .ok (.getfield 39, 3) := by decide +kernel
theorem dX8_netAll_59 : decode cX8_netAll 59 = .ok (.getfield 166, 3) := by decide +kernel
theorem dX8_netAll_62 : decode cX8_netAll 62 = .ok (.iload_n 1, 1) := by decide +kernel
theorem dX8_netAll_63 : decode cX8_netAll 63 = .ok (.iaload, 1) := by decide +kernel
theorem dX8_netAll_64 : decode cX8_netAll 64 = .ok (.dup2, 1) := by decide +kernel
theorem dX8_netAll_65 : decode cX8_netAll 65 = .ok (.iaload, 1) := by decide +kernel
theorem dX8_netAll_66 : decode cX8_netAll 66 = .ok (.aload_n 0, 1) := by decide +kernel
theorem dX8_netAll_67 : decode cX8_netAll 67 = .ok (.getfield 29, 3) := by decide +kernel
theorem dX8_netAll_70 : decode cX8_netAll 70 = .ok (.iload_n 1, 1) := by decide +kernel
theorem dX8_netAll_71 : decode cX8_netAll 71 = .ok (.iaload, 1) := by decide +kernel
theorem dX8_netAll_72 : decode cX8_netAll 72 = .ok (.isub, 1) := by decide +kernel
theorem dX8_netAll_73 : decode cX8_netAll 73 = .ok (.iastore, 1) := by decide +kernel
theorem dX8_netAll_74 : decode cX8_netAll 74 = .ok (.iinc 1 1, 3) := by decide +kernel
theorem dX8_netAll_77 : decode cX8_netAll 77 = .ok (.goto (-54), 3) := by decide +kernel
theorem dX8_netAll_80 : decode cX8_netAll 80 = .ok (.return_, 1) := by decide +kernel
theorem dX8_mostGroupsWithOneLess_0 : decode cX8_mostGroupsWithOneLess 0 = .ok (.iconst 0, 1) := by decide +kernel
theorem dX8_mostGroupsWithOneLess_1 : decode cX8_mostGroupsWithOneLess 1 = .ok (.istore_n 2, 1) := by decide +kernel
theorem dX8_mostGroupsWithOneLess_2 : decode cX8_mostGroupsWithOneLess 2 = .ok (.iconst 0, 1) := by decide +kernel
theorem dX8_mostGroupsWithOneLess_3 : decode cX8_mostGroupsWithOneLess 3 = .ok (.istore_n 3, 1) := by decide +kernel
theorem dX8_mostGroupsWithOneLess_4 : decode cX8_mostGroupsWithOneLess 4 = .ok (.iload_n 3, 1) := by decide +kernel
theorem dX8_mostGroupsWithOneLess_5 : decode cX8_mostGroupsWithOneLess 5 = .ok (.bipush 8, 2) := by decide +kernel
theorem dX8_mostGroupsWithOneLess_7 : decode cX8_mostGroupsWithOneLess 7 = .ok (.if_icmp .ge 33, 3) := by decide +kernel
theorem dX8_mostGroupsWithOneLess_10 : decode cX8_mostGroupsWithOneLess 10 = .ok (.iload_n 1, 1) := by decide +kernel
theorem dX8_mostGroupsWithOneLess_11 : decode cX8_mostGroupsWithOneLess 11 = .ok (.iload_n 3, 1) := by decide +kernel
theorem dX8_mostGroupsWithOneLess_12 : decode cX8_mostGroupsWithOneLess 12 = .ok (.ishr, 1) := by decide +kernel
theorem dX8_mostGroupsWithOneLess_13 : decode cX8_mostGroupsWithOneLess 13 = .ok (.iconst 1, 1) := by decide +kernel
theorem dX8_mostGroupsWithOneLess_14 : decode cX8_mostGroupsWithOneLess 14 = .ok (.iand, 1) := by decide +kernel
theorem dX8_mostGroupsWithOneLess_15 : decode cX8_mostGroupsWithOneLess 15 = .ok (.iconst 1, 1) := by decide +kernel
theorem dX8_mostGroupsWithOneLess_16 : decode cX8_mostGroupsWithOneLess 16 = .ok (.if_icmp .ne 18, 3) := by decide +kernel
theorem dX8_mostGroupsWithOneLess_19 : decode cX8_mostGroupsWithOneLess 19 = .ok (.iload_n 2, 1) := by decide +kernel
theorem dX8_mostGroupsWithOneLess_20 : decode cX8_mostGroupsWithOneLess 20 = .ok (.aload_n 0, 1) := by decide +kernel
theorem dX8_mostGroupsWithOneLess_21 : decode cX8_mostGroupsWithOneLess 21 = .ok (.getfield 59, 3) := by decide +kernel
theorem dX8_mostGroupsWithOneLess_24 : decode cX8_mostGroupsWithOneLess 24 = .ok (.iload_n 1, 1) := by decide +kernel
theorem dX8_mostGroupsWithOneLess_25 : decode cX8_mostGroupsWithOneLess 25 = .ok (.iconst 1, 1) := by decide +kernel
theorem dX8_mostGroupsWithOneLess_26 : decode cX8_mostGroupsWithOneLess 26 = .ok (.iload_n 3, 1) := by decide +kernel
theorem dX8_mostGroupsWithOneLess_27 : decode cX8_mostGroupsWithOneLess 27 = .ok (.ishl, 1) := by decide +kernel
theorem dX8_mostGroupsWithOneLess_28 : decode cX8_mostGroupsWithOneLess 28 = .ok (.ixor, 1) := by decide +kernel
theorem dX8_mostGroupsWithOneLess_29 : decode cX8_mostGroupsWithOneLess 29 = .ok (.iaload, 1) := by decide +kernel
theorem dX8_mostGroupsWithOneLess_30 : decode cX8_mostGroupsWithOneLess 30 = .ok (.invokestatic 324, 3) := by decide +kernel
theorem dX8_mostGroupsWithOneLess_33 : decode cX8_mostGroupsWithOneLess 33 = .ok (.istore_n 2, 1) := by decide +kernel
theorem dX8_mostGroupsWithOneLess_34 : decode cX8_mostGroupsWithOneLess 34 = .ok (.iinc 3 1, 3) := by decide +kernel
theorem dX8_mostGroupsWithOneLess_37 : decode cX8_mostGroupsWithOneLess 37 = .ok (.goto (-33), 3) := by decide +kernel
theorem dX8_mostGroupsWithOneLess_40 : decode cX8_mostGroupsWithOneLess 40 = .ok (.iload_n 2, 1) := by decide +kernel
theorem dX8_mostGroupsWithOneLess_41 : decode cX8_mostGroupsWithOneLess 41 = .ok (.ireturn, 1) := by decide +kernel
theorem dX8_with_0 : decode cX8_with 0 = .ok (.ldc2_w 329, 3) := by decide +kernel
theorem dX8_with_3 : decode cX8_with 3 = .ok (.lload_n 0, 1) := by decide +kernel
theorem dX8_with_4 : decode cX8_with 4 = .ok (.lmul, 1) := by decide +kernel
theorem dX8_with_5 : decode cX8_with 5 = .ok (.lload_n 2, 1) := by decide +kernel
theorem dX8_with_6 : decode cX8_with 6 = .ok (.ladd, 1) := by decide +kernel
theorem dX8_with_7 : decode cX8_with 7 = .ok (.lreturn, 1) := by decide +kernel
theorem dX8_withThieves_0 : decode cX8_withThieves 0 = .ok (.lload_n 1, 1) := by decide +kernel
theorem dX8_withThieves_1 : decode cX8_withThieves 1 = .ok (.lstore_n 3, 1) := by decide +kernel
theorem dX8_withThieves_2 : decode cX8_withThieves 2 = .ok (.iconst 0, 1) := by decide +kernel
theorem dX8_withThieves_3 : decode cX8_withThieves 3 = .ok (.istore 5, 2) := by decide +kernel
theorem dX8_withThieves_5 : decode cX8_withThieves 5 = .ok (.iload 5, 2) := by decide +kernel
theorem dX8_withThieves_7 : decode cX8_withThieves 7 = .ok (.aload_n 0, 1) := by decide +kernel
theorem dX8_withThieves_8 : decode cX8_withThieves 8 = .ok (.getfield 62, 3) := by decide +kernel
theorem dX8_withThieves_11 : decode cX8_withThieves 11 = .ok (.if_icmp .ge 38, 3) := by decide +kernel
theorem dX8_withThieves_14 : decode cX8_withThieves 14 = .ok (.iconst 0, 1) := by decide +kernel
theorem dX8_withThieves_15 : decode cX8_withThieves 15 = .ok (.istore 6, 2) := by decide +kernel
theorem dX8_withThieves_17 : decode cX8_withThieves 17 = .ok (.iload 6, 2) := by decide +kernel
theorem dX8_withThieves_19 : decode cX8_withThieves 19 = .ok (.iconst 5, 1) := by decide +kernel
theorem dX8_withThieves_20 : decode cX8_withThieves 20 = .ok (.if_icmp .gt 23, 3) := by decide +kernel
theorem dX8_withThieves_23 : decode cX8_withThieves 23 = .ok (.lload_n 3, 1) := by decide +kernel
theorem dX8_withThieves_24 : decode cX8_withThieves 24 = .ok (.aload_n 0, 1) := by decide +kernel
theorem dX8_withThieves_25 : decode cX8_withThieves 25 = .ok (.iload 5, 2) := by decide +kernel
theorem dX8_withThieves_27 : decode cX8_withThieves 27 = .ok (.iload 6, 2) := by decide +kernel
theorem dX8_withThieves_29 : decode cX8_withThieves 29 = .ok (.invokevirtual 331, 3) := by decide +kernel
theorem dX8_withThieves_32 : decode cX8_withThieves 32 = .ok (.i2l, 1) := by decide +kernel
theorem dX8_withThieves_33 : decode cX8_withThieves 33 = .ok (.invokestatic 266, 3) := by decide +kernel
theorem dX8_withThieves_36 : decode cX8_withThieves 36 = .ok (.lstore_n 3, 1) := by decide +kernel
theorem dX8_withThieves_37 : decode cX8_withThieves 37 = .ok (.iinc 6 1, 3) := by decide +kernel
theorem dX8_withThieves_40 : decode cX8_withThieves 40 = .ok (.goto (-23), 3) := by decide +kernel
theorem dX8_withThieves_43 : decode cX8_withThieves 43 = .ok (.iinc 5 1, 3) := by decide +kernel
theorem dX8_withThieves_46 : decode cX8_withThieves 46 = .ok (.goto (-41), 3) := by decide +kernel
theorem dX8_withThieves_49 : decode cX8_withThieves 49 = .ok (.lload_n 3, 1) := by decide +kernel
theorem dX8_withThieves_50 : decode cX8_withThieves 50 = .ok (.lreturn, 1) := by decide +kernel
theorem dX8_withHouses_0 : decode cX8_withHouses 0 = .ok (.lload_n 1, 1) := by decide +kernel
theorem dX8_withHouses_1 : decode cX8_withHouses 1 = .ok (.lstore_n 3, 1) := by decide +kernel
theorem dX8_withHouses_2 : decode cX8_withHouses 2 = .ok (.iconst 0, 1) := by decide +kernel
theorem dX8_withHouses_3 : decode cX8_withHouses 3 = .ok (.istore 5, 2) := by decide +kernel
theorem dX8_withHouses_5 : decode cX8_withHouses 5 = .ok (.iload 5, 2) := by decide +kernel
theorem dX8_withHouses_7 : decode cX8_withHouses 7 = .ok (.bipush 8, 2) := by decide +kernel
theorem dX8_withHouses_9 : decode cX8_withHouses 9 = .ok (.if_icmp .ge 60, 3) := by decide +kernel
theorem dX8_withHouses_12 : decode cX8_withHouses 12 = .ok (.lload_n 3, 1) := by decide +kernel
theorem dX8_withHouses_13 : decode cX8_withHouses 13 = .ok (.aload_n 0, 1) := by decide +kernel
theorem dX8_withHouses_14 : decode cX8_withHouses 14 = .ok (.getfield 39, 3) := by decide +kernel
theorem dX8_withHouses_17 : decode cX8_withHouses 17 = .ok (.getfield 160, 3) := by decide +kernel
theorem dX8_withHouses_20 : decode cX8_withHouses 20 = .ok (.iload 5, 2) := by decide +kernel
theorem dX8_withHouses_22 : decode cX8_withHouses 22 = .ok (.iaload, 1) := by decide +kernel
theorem dX8_withHouses_23 : decode cX8_withHouses 23 = .ok (.i2l, 1) := by decide +kernel
theorem dX8_withHouses_24 : decode cX8_withHouses 24 = .ok (.invokestatic 266, 3) := by decide +kernel
theorem dX8_withHouses_27 : decode cX8_withHouses 27 = .ok (.lstore_n 3, 1) := by decide +kernel
theorem dX8_withHouses_28 : decode cX8_withHouses 28 = .ok (.lload_n 3, 1) := by decide +kernel
theorem dX8_withHouses_29 : decode cX8_withHouses 29 = .ok (.aload_n 0, 1) := by decide +kernel
theorem dX8_withHouses_30 : decode cX8_withHouses 30 = .ok (.getfield 39, 3) := by decide +kernel
theorem dX8_withHouses_33 : decode cX8_withHouses 33 = .ok (.getfield 163, 3) := by decide +kernel
theorem dX8_withHouses_36 : decode cX8_withHouses 36 = .ok (.iload 5, 2) := by decide +kernel
theorem dX8_withHouses_38 : decode cX8_withHouses 38 = .ok (.baload, 1) := by decide +kernel
theorem dX8_withHouses_39 : decode cX8_withHouses 39 = .ok (.invokestatic 149, 3) := by decide +kernel
theorem dX8_withHouses_42 : decode cX8_withHouses 42 = .ok (.i2l, 1) := by decide +kernel
theorem dX8_withHouses_43 : decode cX8_withHouses 43 = .ok (.invokestatic 266, 3) := by decide +kernel
theorem dX8_withHouses_46 : decode cX8_withHouses 46 = .ok (.lstore_n 3, 1) := by decide +kernel
theorem dX8_withHouses_47 : decode cX8_withHouses 47 = .ok (.lload_n 3, 1) := by decide +kernel
theorem dX8_withHouses_48 : decode cX8_withHouses 48 = .ok (.aload_n 0, 1) := by decide +kernel
theorem dX8_withHouses_49 : decode cX8_withHouses 49 = .ok (.aload_n 0, 1) := by decide +kernel
theorem dX8_withHouses_50 : decode cX8_withHouses 50 = .ok (.getfield 39, 3) := by decide +kernel
theorem dX8_withHouses_53 : decode cX8_withHouses 53 = .ok (.iload 5, 2) := by decide +kernel
theorem dX8_withHouses_55 : decode cX8_withHouses 55 = .ok (.invokevirtual 175, 3) := by decide +kernel
theorem dX8_withHouses_58 : decode cX8_withHouses 58 = .ok (.i2l, 1) := by decide +kernel
theorem dX8_withHouses_59 : decode cX8_withHouses 59 = .ok (.invokestatic 266, 3) := by decide +kernel
theorem dX8_withHouses_62 : decode cX8_withHouses 62 = .ok (.lstore_n 3, 1) := by decide +kernel
theorem dX8_withHouses_63 : decode cX8_withHouses 63 = .ok (.iinc 5 1, 3) := by decide +kernel
theorem dX8_withHouses_66 : decode cX8_withHouses 66 = .ok (.goto (-61), 3) := by decide +kernel
theorem dX8_withHouses_69 : decode cX8_withHouses 69 = .ok (.lload_n 3, 1) := by decide +kernel
theorem dX8_withHouses_70 : decode cX8_withHouses 70 = .ok (.lreturn, 1) := by decide +kernel
theorem dX8_withSpoons_0 : decode cX8_withSpoons 0 = .ok (.lload_n 1, 1) := by decide +kernel
theorem dX8_withSpoons_1 : decode cX8_withSpoons 1 = .ok (.lstore_n 3, 1) := by decide +kernel
theorem dX8_withSpoons_2 : decode cX8_withSpoons 2 = .ok (.iconst 0, 1) := by decide +kernel
theorem dX8_withSpoons_3 : decode cX8_withSpoons 3 = .ok (.istore 5, 2) := by decide +kernel
theorem dX8_withSpoons_5 : decode cX8_withSpoons 5 = .ok (.iload 5, 2) := by decide +kernel
theorem dX8_withSpoons_7 : decode cX8_withSpoons 7 = .ok (.aload_n 0, 1) := by decide +kernel
theorem dX8_withSpoons_8 : decode cX8_withSpoons 8 = .ok (.getfield 66, 3) := by decide +kernel
theorem dX8_withSpoons_11 : decode cX8_withSpoons 11 = .ok (.if_icmp .ge 38, 3) := by decide +kernel
theorem dX8_withSpoons_14 : decode cX8_withSpoons 14 = .ok (.iconst 0, 1) := by decide +kernel
theorem dX8_withSpoons_15 : decode cX8_withSpoons 15 = .ok (.istore 6, 2) := by decide +kernel
theorem dX8_withSpoons_17 : decode cX8_withSpoons 17 = .ok (.iload 6, 2) := by decide +kernel
theorem dX8_withSpoons_19 : decode cX8_withSpoons 19 = .ok (.iconst 3, 1) := by decide +kernel
theorem dX8_withSpoons_20 : decode cX8_withSpoons 20 = .ok (.if_icmp .gt 23, 3) := by decide +kernel
theorem dX8_withSpoons_23 : decode cX8_withSpoons 23 = .ok (.lload_n 3, 1) := by decide +kernel
theorem dX8_withSpoons_24 : decode cX8_withSpoons 24 = .ok (.aload_n 0, 1) := by decide +kernel
theorem dX8_withSpoons_25 : decode cX8_withSpoons 25 = .ok (.iload 5, 2) := by decide +kernel
theorem dX8_withSpoons_27 : decode cX8_withSpoons 27 = .ok (.iload 6, 2) := by decide +kernel
theorem dX8_withSpoons_29 : decode cX8_withSpoons 29 = .ok (.invokevirtual 334, 3) := by decide +kernel
theorem dX8_withSpoons_32 : decode cX8_withSpoons 32 = .ok (.i2l, 1) := by decide +kernel
theorem dX8_withSpoons_33 : decode cX8_withSpoons 33 = .ok (.invokestatic 266, 3) := by decide +kernel
theorem dX8_withSpoons_36 : decode cX8_withSpoons 36 = .ok (.lstore_n 3, 1) := by decide +kernel
theorem dX8_withSpoons_37 : decode cX8_withSpoons 37 = .ok (.iinc 6 1, 3) := by decide +kernel
theorem dX8_withSpoons_40 : decode cX8_withSpoons 40 = .ok (.goto (-23), 3) := by decide +kernel
theorem dX8_withSpoons_43 : decode cX8_withSpoons 43 = .ok (.iinc 5 1, 3) := by decide +kernel
theorem dX8_withSpoons_46 : decode cX8_withSpoons 46 = .ok (.goto (-41), 3) := by decide +kernel
theorem dX8_withSpoons_49 : decode cX8_withSpoons 49 = .ok (.lload_n 3, 1) := by decide +kernel
theorem dX8_withSpoons_50 : decode cX8_withSpoons 50 = .ok (.lreturn, 1) := by decide +kernel
theorem dX8_withOutlook_0 : decode cX8_withOutlook 0 = .ok (.lload_n 1, 1) := by decide +kernel
theorem dX8_withOutlook_1 : decode cX8_withOutlook 1 = .ok (.aload_n 0, 1) := by decide +kernel
theorem dX8_withOutlook_2 : decode cX8_withOutlook 2 = .ok (.invokevirtual 337, 3) := by decide +kernel
theorem dX8_withOutlook_5 : decode cX8_withOutlook 5 = .ok (.i2l, 1) := by decide +kernel
theorem dX8_withOutlook_6 : decode cX8_withOutlook 6 = .ok (.invokestatic 266, 3) := by decide +kernel
theorem dX8_withOutlook_9 : decode cX8_withOutlook 9 = .ok (.lstore_n 3, 1) := by decide +kernel
theorem dX8_withOutlook_10 : decode cX8_withOutlook 10 = .ok (.lload_n 3, 1) := by decide +kernel
theorem dX8_withOutlook_11 : decode cX8_withOutlook 11 = .ok (.aload_n 0, 1) := by decide +kernel
theorem dX8_withOutlook_12 : decode cX8_withOutlook 12 = .ok (.invokevirtual 340, 3) := by decide +kernel
theorem dX8_withOutlook_15 : decode cX8_withOutlook 15 = .ok (.i2l, 1) := by decide +kernel
theorem dX8_withOutlook_16 : decode cX8_withOutlook 16 = .ok (.invokestatic 266, 3) := by decide +kernel
theorem dX8_withOutlook_19 : decode cX8_withOutlook 19 = .ok (.lstore_n 3, 1) := by decide +kernel
theorem dX8_withOutlook_20 : decode cX8_withOutlook 20 = .ok (.iconst 0, 1) := by decide +kernel
theorem dX8_withOutlook_21 : decode cX8_withOutlook 21 = .ok (.istore 5, 2) := by decide +kernel
theorem dX8_withOutlook_23 : decode cX8_withOutlook 23 = .ok (.iload 5, 2) := by decide +kernel
theorem dX8_withOutlook_25 : decode cX8_withOutlook 25 = .ok (.bipush 8, 2) := by decide +kernel
theorem dX8_withOutlook_27 : decode cX8_withOutlook 27 = .ok (.if_icmp .ge 41, 3) := by decide +kernel
theorem dX8_withOutlook_30 : decode cX8_withOutlook 30 = .ok (.aload_n 0, 1) := by decide +kernel
theorem dX8_withOutlook_31 : decode cX8_withOutlook 31 = .ok (.iload 5, 2) := by decide +kernel
theorem dX8_withOutlook_33 : decode cX8_withOutlook 33 = .ok (.iconst 3, 1) := by decide +kernel
theorem dX8_withOutlook_34 : decode cX8_withOutlook 34 = .ok (.invokevirtual 209, 3) := by decide +kernel
theorem dX8_withOutlook_37 : decode cX8_withOutlook 37 = .ok (.istore 6, 2) := by decide +kernel
theorem dX8_withOutlook_39 : decode cX8_withOutlook 39 = .ok (.lload_n 3, 1) := by decide +kernel
theorem dX8_withOutlook_40 : decode cX8_withOutlook 40 = .ok (.aload_n 0, 1) := by decide +kernel
theorem dX8_withOutlook_41 : decode cX8_withOutlook 41 = .ok (.iload 5, 2) := by decide +kernel
theorem dX8_withOutlook_43 : decode cX8_withOutlook 43 = .ok (.iconst 3, 1) := by decide +kernel
theorem dX8_withOutlook_44 : decode cX8_withOutlook 44 = .ok (.iload 6, 2) := by decide +kernel
theorem dX8_withOutlook_46 : decode cX8_withOutlook 46 = .ok (.invokevirtual 213, 3) := by decide +kernel
theorem dX8_withOutlook_49 : decode cX8_withOutlook 49 = .ok (.i2l, 1) := by decide +kernel
theorem dX8_withOutlook_50 : decode cX8_withOutlook 50 = .ok (.invokestatic 266, 3) := by decide +kernel
theorem dX8_withOutlook_53 : decode cX8_withOutlook 53 = .ok (.lstore_n 3, 1) := by decide +kernel
theorem dX8_withOutlook_54 : decode cX8_withOutlook 54 = .ok (.lload_n 3, 1) := by decide +kernel
theorem dX8_withOutlook_55 : decode cX8_withOutlook 55 = .ok (.iload 6, 2) := by decide +kernel
theorem dX8_withOutlook_57 : decode cX8_withOutlook 57 = .ok (.i2l, 1) := by decide +kernel
theorem dX8_withOutlook_58 : decode cX8_withOutlook 58 = .ok (.invokestatic 266, 3) := by decide +kernel
theorem dX8_withOutlook_61 : decode cX8_withOutlook 61 = .ok (.lstore_n 3, 1) := by decide +kernel
theorem dX8_withOutlook_62 : decode cX8_withOutlook 62 = .ok (.iinc 5 1, 3) := by decide +kernel
theorem dX8_withOutlook_65 : decode cX8_withOutlook 65 = .ok (.goto (-42), 3) := by decide +kernel
theorem dX8_withOutlook_68 : decode cX8_withOutlook 68 = .ok (.lload_n 3, 1) := by decide +kernel
theorem dX8_withOutlook_69 : decode cX8_withOutlook 69 = .ok (.lreturn, 1) := by decide +kernel
theorem dX9_init_0 : decode cX9_init 0 = .ok (.aload_n 0, 1) := by decide +kernel
theorem dX9_init_1 : decode cX9_init 1 = .ok (.invokespecial 1, 3) := by decide +kernel
theorem dX9_init_4 : decode cX9_init 4 = .ok (.aload_n 0, 1) := by decide +kernel
theorem dX9_init_5 : decode cX9_init 5 = .ok (.bipush 40, 2) := by decide +kernel
theorem dX9_init_7 : decode cX9_init 7 = .ok (.newarray .int, 2) := by decide +kernel
theorem dX9_init_9 : decode cX9_init 9 = .ok (.putfield 7, 3) := by decide +kernel
theorem dX9_init_12 : decode cX9_init 12 = .ok (.aload_n 0, 1) := by decide +kernel
theorem dX9_init_13 : decode cX9_init 13 = .ok (.bipush 32, 2) := by decide +kernel
theorem dX9_init_15 : decode cX9_init 15 = .ok (.newarray .int, 2) := by decide +kernel
theorem dX9_init_17 : decode cX9_init 17 = .ok (.putfield 13, 3) := by decide +kernel
theorem dX9_init_20 : decode cX9_init 20 = .ok (.aload_n 0, 1) := by decide +kernel
theorem dX9_init_21 : decode cX9_init 21 = .ok (.bipush 32, 2) := by decide +kernel
theorem dX9_init_23 : decode cX9_init 23 = .ok (.newarray .int, 2) := by decide +kernel
theorem dX9_init_25 : decode cX9_init 25 = .ok (.putfield 16, 3) := by decide +kernel
theorem dX9_init_28 : decode cX9_init 28 = .ok (.aload_n 0, 1) := by decide +kernel
theorem dX9_init_29 : decode cX9_init 29 = .ok (.bipush 8, 2) := by decide +kernel
theorem dX9_init_31 : decode cX9_init 31 = .ok (.newarray .int, 2) := by decide +kernel
theorem dX9_init_33 : decode cX9_init 33 = .ok (.putfield 19, 3) := by decide +kernel
theorem dX9_init_36 : decode cX9_init 36 = .ok (.aload_n 0, 1) := by decide +kernel
theorem dX9_init_37 : decode cX9_init 37 = .ok (.bipush 8, 2) := by decide +kernel
theorem dX9_init_39 : decode cX9_init 39 = .ok (.newarray .int, 2) := by decide +kernel
theorem dX9_init_41 : decode cX9_init 41 = .ok (.putfield 22, 3) := by decide +kernel
theorem dX9_init_44 : decode cX9_init 44 = .ok (.aload_n 0, 1) := by decide +kernel
theorem dX9_init_45 : decode cX9_init 45 = .ok (.bipush 32, 2) := by decide +kernel
theorem dX9_init_47 : decode cX9_init 47 = .ok (.newarray .int, 2) := by decide +kernel
theorem dX9_init_49 : decode cX9_init 49 = .ok (.putfield 25, 3) := by decide +kernel
theorem dX9_init_52 : decode cX9_init 52 = .ok (.aload_n 0, 1) := by decide +kernel
theorem dX9_init_53 : decode cX9_init 53 = .ok (.bipush 8, 2) := by decide +kernel
theorem dX9_init_55 : decode cX9_init 55 = .ok (.newarray .int, 2) := by decide +kernel
theorem dX9_init_57 : decode cX9_init 57 = .ok (.putfield 28, 3) := by decide +kernel
theorem dX9_init_60 : decode cX9_init 60 = .ok (.aload_n 0, 1) := by decide +kernel
theorem dX9_init_61 : decode cX9_init 61 = .ok (.bipush 8, 2) := by decide +kernel
theorem dX9_init_63 : decode cX9_init 63 = .ok (.newarray .int, 2) := by decide +kernel
theorem dX9_init_65 : decode cX9_init 65 = .ok (.putfield 31, 3) := by decide +kernel
theorem dX9_init_68 : decode cX9_init 68 = .ok (.aload_n 0, 1) := by decide +kernel
theorem dX9_init_69 : decode cX9_init 69 = .ok (.bipush 8, 2) := by decide +kernel
theorem dX9_init_71 : decode cX9_init 71 = .ok (.newarray .long, 2) := by decide +kernel
theorem dX9_init_73 : decode cX9_init 73 = .ok (.putfield 34, 3) := by decide +kernel
theorem dX9_init_76 : decode cX9_init 76 = .ok (.aload_n 0, 1) := by decide +kernel
theorem dX9_init_77 : decode cX9_init 77 = .ok (.sipush 256, 3) := by decide +kernel
theorem dX9_init_80 : decode cX9_init 80 = .ok (.newarray .int, 2) := by decide +kernel
theorem dX9_init_82 : decode cX9_init 82 = .ok (.putfield 38, 3) := by decide +kernel
theorem dX9_init_85 : decode cX9_init 85 = .ok (.aload_n 0, 1) := by decide +kernel
theorem dX9_init_86 : decode cX9_init 86 = .ok (.bipush 8, 2) := by decide +kernel
theorem dX9_init_88 : decode cX9_init 88 = .ok (.newarray .int, 2) := by decide +kernel
theorem dX9_init_90 : decode cX9_init 90 = .ok (.putfield 41, 3) := by decide +kernel
theorem dX9_init_93 : decode cX9_init 93 = .ok (.aload_n 0, 1) := by decide +kernel
theorem dX9_init_94 : decode cX9_init 94 = .ok (.bipush 8, 2) := by decide +kernel
theorem dX9_init_96 : decode cX9_init 96 = .ok (.newarray .int, 2) := by decide +kernel
theorem dX9_init_98 : decode cX9_init 98 = .ok (.putfield 44, 3) := by decide +kernel
theorem dX9_init_101 : decode cX9_init 101 = .ok (.aload_n 0, 1) := by decide +kernel
theorem dX9_init_102 : decode cX9_init 102 = .ok (.bipush 8, 2) := by decide +kernel
theorem dX9_init_104 : decode cX9_init 104 = .ok (.newarray .int, 2) := by decide +kernel
theorem dX9_init_106 : decode cX9_init 106 = .ok (.putfield 47, 3) := by decide +kernel
theorem dX9_init_109 : decode cX9_init 109 = .ok (.aload_n 0, 1) := by decide +kernel
theorem dX9_init_110 : decode cX9_init 110 = .ok (.bipush 32, 2) := by decide +kernel
theorem dX9_init_112 : decode cX9_init 112 = .ok (.newarray .int, 2) := by decide +kernel
theorem dX9_init_114 : decode cX9_init 114 = .ok (.putfield 50, 3) := by decide +kernel
theorem dX9_init_117 : decode cX9_init 117 = .ok (.aload_n 0, 1) := by decide +kernel
theorem dX9_init_118 : decode cX9_init 118 = .ok (.iconst (-1), 1) := by decide +kernel
theorem dX9_init_119 : decode cX9_init 119 = .ok (.putfield 53, 3) := by decide +kernel
theorem dX9_init_122 : decode cX9_init 122 = .ok (.return_, 1) := by decide +kernel
theorem dX9_in_0 : decode cX9_in 0 = .ok (.lload_n 0, 1) := by decide +kernel
theorem dX9_in_1 : decode cX9_in 1 = .ok (.lload_n 2, 1) := by decide +kernel
theorem dX9_in_2 : decode cX9_in 2 = .ok (.lcmp, 1) := by decide +kernel
theorem dX9_in_3 : decode cX9_in 3 = .ok (.ifCond .lt 14, 3) := by decide +kernel
theorem dX9_in_6 : decode cX9_in 6 = .ok (.lload_n 0, 1) := by decide +kernel
theorem dX9_in_7 : decode cX9_in 7 = .ok (.lload 4, 2) := by decide +kernel
theorem dX9_in_9 : decode cX9_in 9 = .ok (.lcmp, 1) := by decide +kernel
theorem dX9_in_10 : decode cX9_in 10 = .ok (.ifCond .gt 7, 3) := by decide +kernel
theorem dX9_in_13 : decode cX9_in 13 = .ok (.iconst 1, 1) := by decide +kernel
theorem dX9_in_14 : decode cX9_in 14 = .ok (.goto 4, 3) := by decide +kernel
theorem dX9_in_17 : decode cX9_in 17 = .ok (.iconst 0, 1) := by decide +kernel
theorem dX9_in_18 : decode cX9_in 18 = .ok (.ireturn, 1) := by decide +kernel
theorem dX9_letters_0 : decode cX9_letters 0 = .ok (.iconst 0, 1) := by decide +kernel
theorem dX9_letters_1 : decode cX9_letters 1 = .ok (.istore_n 3, 1) := by decide +kernel
theorem dX9_letters_2 : decode cX9_letters 2 = .ok (.iconst 1, 1) := by decide +kernel
theorem dX9_letters_3 : decode cX9_letters 3 = .ok (.istore 4, 2) := by decide +kernel
theorem dX9_letters_5 : decode cX9_letters 5 = .ok (.lload_n 1, 1) := by decide +kernel
theorem dX9_letters_6 : decode cX9_letters 6 = .ok (.lstore 5, 2) := by decide +kernel
theorem dX9_letters_8 : decode cX9_letters 8 = .ok (.iconst 0, 1) := by decide +kernel
theorem dX9_letters_9 : decode cX9_letters 9 = .ok (.istore 7, 2) := by decide +kernel
theorem dX9_letters_11 : decode cX9_letters 11 = .ok (.iload 7, 2) := by decide +kernel
theorem dX9_letters_13 : decode cX9_letters 13 = .ok (.bipush 8, 2) := by decide +kernel
theorem dX9_letters_15 : decode cX9_letters 15 = .ok (.if_icmp .ge 68, 3) := by decide +kernel
theorem dX9_letters_18 : decode cX9_letters 18 = .ok (.lload 5, 2) := by decide +kernel
theorem dX9_letters_20 : decode cX9_letters 20 = .ok (.ldc2_w 57, 3) := by decide +kernel
theorem dX9_letters_23 : decode cX9_letters 23 = .ok (.land, 1) := by decide +kernel
theorem dX9_letters_24 : decode cX9_letters 24 = .ok (.l2i, 1) := by decide +kernel
theorem dX9_letters_25 : decode cX9_letters 25 = .ok (.istore 8, 2) := by decide +kernel
theorem dX9_letters_27 : decode cX9_letters 27 = .ok (.lload 5, 2) := by decide +kernel
theorem dX9_letters_29 : decode cX9_letters 29 = .ok (.bipush 8, 2) := by decide +kernel
theorem dX9_letters_31 : decode cX9_letters 31 = .ok (.lushr, 1) := by decide +kernel
theorem dX9_letters_32 : decode cX9_letters 32 = .ok (.lstore 5, 2) := by decide +kernel
theorem dX9_letters_34 : decode cX9_letters 34 = .ok (.iload 4, 2) := by decide +kernel
theorem dX9_letters_36 : decode cX9_letters 36 = .ok (.ifCond .eq 25, 3) := by decide +kernel
theorem dX9_letters_39 : decode cX9_letters 39 = .ok (.iload 8, 2) := by decide +kernel
theorem dX9_letters_41 : decode cX9_letters 41 = .ok (.bipush 126, 2) := by decide +kernel
theorem dX9_letters_43 : decode cX9_letters 43 = .ok (.if_icmp .gt 18, 3) := by decide +kernel
theorem dX9_letters_46 : decode cX9_letters 46 = .ok (.iload 8, 2) := by decide +kernel
theorem dX9_letters_48 : decode cX9_letters 48 = .ok (.ifCond .eq 9, 3) := by decide +kernel
theorem dX9_letters_51 : decode cX9_letters 51 = .ok (.iload_n 3, 1) := by decide +kernel
theorem dX9_letters_52 : decode cX9_letters 52 = .ok (.iload 7, 2) := by decide +kernel
theorem dX9_letters_54 : decode cX9_letters 54 = .ok (.if_icmp .ne 7, 3) := by decide +kernel
theorem dX9_letters_57 : decode cX9_letters 57 = .ok (.iconst 1, 1) := by decide +kernel
theorem dX9_letters_58 : decode cX9_letters 58 = .ok (.goto 4, 3) := by decide +kernel
theorem dX9_letters_61 : decode cX9_letters 61 = .ok (.iconst 0, 1) := by decide +kernel
theorem dX9_letters_62 : decode cX9_letters 62 = .ok (.istore 4, 2) := by decide +kernel
theorem dX9_letters_64 : decode cX9_letters 64 = .ok (.iload_n 3, 1) := by decide +kernel
theorem dX9_letters_65 : decode cX9_letters 65 = .ok (.iload 8, 2) := by decide +kernel
theorem dX9_letters_67 : decode cX9_letters 67 = .ok (.ifCond .le 7, 3) := by decide +kernel
theorem dX9_letters_70 : decode cX9_letters 70 = .ok (.iconst 1, 1) := by decide +kernel
theorem dX9_letters_71 : decode cX9_letters 71 = .ok (.goto 4, 3) := by decide +kernel
theorem dX9_letters_74 : decode cX9_letters 74 = .ok (.iconst 0, 1) := by decide +kernel
theorem dX9_letters_75 : decode cX9_letters 75 = .ok (.iadd, 1) := by decide +kernel
theorem dX9_letters_76 : decode cX9_letters 76 = .ok (.istore_n 3, 1) := by decide +kernel
theorem dX9_letters_77 : decode cX9_letters 77 = .ok (.iinc 7 1, 3) := by decide +kernel
theorem dX9_letters_80 : decode cX9_letters 80 = .ok (.goto (-69), 3) := by decide +kernel
theorem dX9_letters_83 : decode cX9_letters 83 = .ok (.iload 4, 2) := by decide +kernel
theorem dX9_letters_85 : decode cX9_letters 85 = .ok (.ifCond .ne 6, 3) := by decide +kernel
theorem dX9_letters_88 : decode cX9_letters 88 = .ok (.bipush (-102), 2) := by decide +kernel
theorem dX9_letters_90 : decode cX9_letters 90 = .ok (.ireturn, 1) := by decide +kernel
theorem dX9_letters_91 : decode cX9_letters 91 = .ok (.aload_n 0, 1) := by decide +kernel
theorem dX9_letters_92 : decode cX9_letters 92 = .ok (.getfield 59, 3) := by decide +kernel
theorem dX9_letters_95 : decode cX9_letters 95 = .ok (.iload_n 3, 1) := by decide +kernel
theorem dX9_letters_96 : decode cX9_letters 96 = .ok (.iadd, 1) := by decide +kernel
theorem dX9_letters_97 : decode cX9_letters 97 = .ok (.bipush 40, 2) := by decide +kernel
theorem dX9_letters_99 : decode cX9_letters 99 = .ok (.if_icmp .le 6, 3) := by decide +kernel
theorem dX9_letters_102 : decode cX9_letters 102 = .ok (.bipush (-104), 2) := by decide +kernel
theorem dX9_letters_104 : decode cX9_letters 104 = .ok (.ireturn, 1) := by decide +kernel
theorem dX9_letters_105 : decode cX9_letters 105 = .ok (.iconst 0, 1) := by decide +kernel
theorem dX9_letters_106 : decode cX9_letters 106 = .ok (.istore 7, 2) := by decide +kernel
theorem dX9_letters_108 : decode cX9_letters 108 = .ok (.iload 7, 2) := by decide +kernel
theorem dX9_letters_110 : decode cX9_letters 110 = .ok (.iload_n 3, 1) := by decide +kernel
theorem dX9_letters_111 : decode cX9_letters 111 = .ok (.if_icmp .ge 40, 3) := by decide +kernel
theorem dX9_letters_114 : decode cX9_letters 114 = .ok (.aload_n 0, 1) := by decide +kernel
theorem dX9_letters_115 : decode cX9_letters 115 = .ok (.getfield 7, 3) := by decide +kernel
theorem dX9_letters_118 : decode cX9_letters 118 = .ok (.aload_n 0, 1) := by decide +kernel
theorem dX9_letters_119 : decode cX9_letters 119 = .ok (.getfield 59, 3) := by decide +kernel
theorem dX9_letters_122 : decode cX9_letters 122 = .ok (.lload_n 1, 1) := by decide +kernel
theorem dX9_letters_123 : decode cX9_letters 123 = .ok (.bipush 8, 2) := by decide +kernel
theorem dX9_letters_125 : decode cX9_letters 125 = .ok (.iload 7, 2) := by decide +kernel
theorem dX9_letters_127 : decode cX9_letters 127 = .ok (.imul, 1) := by decide +kernel
theorem dX9_letters_128 : decode cX9_letters 128 = .ok (.lushr, 1) := by decide +kernel
theorem dX9_letters_129 : decode cX9_letters 129 = .ok (.ldc2_w 57, 3) := by decide +kernel
theorem dX9_letters_132 : decode cX9_letters 132 = .ok (.land, 1) := by decide +kernel
theorem dX9_letters_133 : decode cX9_letters 133 = .ok (.l2i, 1) := by decide +kernel
theorem dX9_letters_134 : decode cX9_letters 134 = .ok (.iastore, 1) := by decide +kernel
theorem dX9_letters_135 : decode cX9_letters 135 = .ok (.aload_n 0, 1) := by decide +kernel
theorem dX9_letters_136 : decode cX9_letters 136 = .ok (.dup, 1) := by decide +kernel
theorem dX9_letters_137 : decode cX9_letters 137 = .ok (.getfield 59, 3) := by decide +kernel
theorem dX9_letters_140 : decode cX9_letters 140 = .ok (.iconst 1, 1) := by decide +kernel
theorem dX9_letters_141 : decode cX9_letters 141 = .ok (.iadd, 1) := by decide +kernel
theorem dX9_letters_142 : decode cX9_letters 142 = .ok (.putfield 59, 3) := by decide +kernel
theorem dX9_letters_145 : decode cX9_letters 145 = .ok (.iinc 7 1, 3) := by decide +kernel
theorem dX9_letters_148 : decode cX9_letters 148 = .ok (.goto (-40), 3) := by decide +kernel
theorem dX9_letters_151 : decode cX9_letters 151 = .ok (.aload_n 0, 1) := by decide +kernel
theorem dX9_letters_152 : decode cX9_letters 152 = .ok (.getfield 59, 3) := by decide +kernel
theorem dX9_letters_155 : decode cX9_letters 155 = .ok (.ireturn, 1) := by decide +kernel
theorem dX9_blank_0 : decode cX9_blank 0 = .ok (.aload_n 0, 1) := by decide +kernel
theorem dX9_blank_1 : decode cX9_blank 1 = .ok (.getfield 59, 3) := by decide +kernel
theorem dX9_blank_4 : decode cX9_blank 4 = .ok (.istore_n 1, 1) := by decide +kernel
theorem dX9_blank_5 : decode cX9_blank 5 = .ok (.aload_n 0, 1) := by decide +kernel
theorem dX9_blank_6 : decode cX9_blank 6 = .ok (.iconst 0, 1) := by decide +kernel
theorem dX9_blank_7 : decode cX9_blank 7 = .ok (.putfield 59, 3) := by decide +kernel
theorem dX9_blank_10 : decode cX9_blank 10 = .ok (.iload_n 1, 1) := by decide +kernel
theorem dX9_blank_11 : decode cX9_blank 11 = .ok (.ireturn, 1) := by decide +kernel
theorem dX9_kindOf_0 : decode cX9_kindOf 0 = .ok (.iload_n 0, 1) := by decide +kernel
theorem dX9_kindOf_1 : decode cX9_kindOf 1 = .ok (.bipush 115, 2) := by decide +kernel
theorem dX9_kindOf_3 : decode cX9_kindOf 3 = .ok (.if_icmp .ne 7, 3) := by decide +kernel
theorem dX9_kindOf_6 : decode cX9_kindOf 6 = .ok (.iconst 1, 1) := by decide +kernel
theorem dX9_kindOf_7 : decode cX9_kindOf 7 = .ok (.goto 34, 3) := by decide +kernel
theorem dX9_kindOf_10 : decode cX9_kindOf 10 = .ok (.iload_n 0, 1) := by decide +kernel
theorem dX9_kindOf_11 : decode cX9_kindOf 11 = .ok (.bipush 98, 2) := by decide +kernel
theorem dX9_kindOf_13 : decode cX9_kindOf 13 = .ok (.if_icmp .ne 7, 3) := by decide +kernel
theorem dX9_kindOf_16 : decode cX9_kindOf 16 = .ok (.iconst 2, 1) := by decide +kernel
theorem dX9_kindOf_17 : decode cX9_kindOf 17 = .ok (.goto 24, 3) := by decide +kernel
theorem dX9_kindOf_20 : decode cX9_kindOf 20 = .ok (.iload_n 0, 1) := by decide +kernel
theorem dX9_kindOf_21 : decode cX9_kindOf 21 = .ok (.bipush 104, 2) := by decide +kernel
theorem dX9_kindOf_23 : decode cX9_kindOf 23 = .ok (.if_icmp .ne 7, 3) := by decide +kernel
theorem dX9_kindOf_26 : decode cX9_kindOf 26 = .ok (.iconst 3, 1) := by decide +kernel
theorem dX9_kindOf_27 : decode cX9_kindOf 27 = .ok (.goto 14, 3) := by decide +kernel
theorem dX9_kindOf_30 : decode cX9_kindOf 30 = .ok (.iload_n 0, 1) := by decide +kernel
theorem dX9_kindOf_31 : decode cX9_kindOf 31 = .ok (.bipush 109, 2) := by decide +kernel
theorem dX9_kindOf_33 : decode cX9_kindOf 33 = .ok (.if_icmp .ne 7, 3) := by decide +kernel
theorem dX9_kindOf_36 : decode cX9_kindOf 36 = .ok (.iconst 4, 1) := by decide +kernel
theorem dX9_kindOf_37 : decode cX9_kindOf 37 = .ok (.goto 4, 3) := by decide +kernel
theorem dX9_kindOf_40 : decode cX9_kindOf 40 = .ok (.iconst (-1), 1) := by decide +kernel
theorem dX9_kindOf_41 : decode cX9_kindOf 41 = .ok (.ireturn, 1) := by decide +kernel
theorem dX9_goDigit_0 : decode cX9_goDigit 0 = .ok (.iconst 4, 1) := by decide +kernel
theorem dX9_goDigit_1 : decode cX9_goDigit 1 = .ok (.aload_n 0, 1) := by decide +kernel
theorem dX9_goDigit_2 : decode cX9_goDigit 2 = .ok (.getfield 62, 3) := by decide +kernel
theorem dX9_goDigit_5 : decode cX9_goDigit 5 = .ok (.imul, 1) := by decide +kernel
theorem dX9_goDigit_6 : decode cX9_goDigit 6 = .ok (.istore_n 2, 1) := by decide +kernel
theorem dX9_goDigit_7 : decode cX9_goDigit 7 = .ok (.aload_n 0, 1) := by decide +kernel
theorem dX9_goDigit_8 : decode cX9_goDigit 8 = .ok (.getfield 65, 3) := by decide +kernel
theorem dX9_goDigit_11 : decode cX9_goDigit 11 = .ok (.ifCond .ne 7, 3) := by decide +kernel
theorem dX9_goDigit_14 : decode cX9_goDigit 14 = .ok (.iconst 1, 1) := by decide +kernel
theorem dX9_goDigit_15 : decode cX9_goDigit 15 = .ok (.goto 7, 3) := by decide +kernel
theorem dX9_goDigit_18 : decode cX9_goDigit 18 = .ok (.aload_n 0, 1) := by decide +kernel
theorem dX9_goDigit_19 : decode cX9_goDigit 19 = .ok (.getfield 65, 3) := by decide +kernel
theorem dX9_goDigit_22 : decode cX9_goDigit 22 = .ok (.istore_n 3, 1) := by decide +kernel
theorem dX9_goDigit_23 : decode cX9_goDigit 23 = .ok (.iload_n 3, 1) := by decide +kernel
theorem dX9_goDigit_24 : decode cX9_goDigit 24 = .ok (.iconst 3, 1) := by decide +kernel
theorem dX9_goDigit_25 : decode cX9_goDigit 25 = .ok (.if_icmp .ne 15, 3) := by decide +kernel
theorem dX9_goDigit_28 : decode cX9_goDigit 28 = .ok (.iload_n 1, 1) := by decide +kernel
theorem dX9_goDigit_29 : decode cX9_goDigit 29 = .ok (.i2l, 1) := by decide +kernel
theorem dX9_goDigit_30 : decode cX9_goDigit 30 = .ok (.lconst 0, 1) := by decide +kernel
theorem dX9_goDigit_31 : decode cX9_goDigit 31 = .ok (.ldc2_w 68, 3) := by decide +kernel
theorem dX9_goDigit_34 : decode cX9_goDigit 34 = .ok (.invokestatic 70, 3) := by decide +kernel
theorem dX9_goDigit_37 : decode cX9_goDigit 37 = .ok (.goto 37, 3) := by decide +kernel
theorem dX9_goDigit_40 : decode cX9_goDigit 40 = .ok (.iload_n 1, 1) := by decide +kernel
theorem dX9_goDigit_41 : decode cX9_goDigit 41 = .ok (.i2l, 1) := by decide +kernel
theorem dX9_goDigit_42 : decode cX9_goDigit 42 = .ok (.lconst 0, 1) := by decide +kernel
theorem dX9_goDigit_43 : decode cX9_goDigit 43 = .ok (.ldc2_w 74, 3) := by decide +kernel
theorem dX9_goDigit_46 : decode cX9_goDigit 46 = .ok (.invokestatic 70, 3) := by decide +kernel
theorem dX9_goDigit_49 : decode cX9_goDigit 49 = .ok (.ifCond .eq 24, 3) := by decide +kernel
theorem dX9_goDigit_52 : decode cX9_goDigit 52 = .ok (.iload_n 3, 1) := by decide +kernel
theorem dX9_goDigit_53 : decode cX9_goDigit 53 = .ok (.iconst 1, 1) := by decide +kernel
theorem dX9_goDigit_54 : decode cX9_goDigit 54 = .ok (.if_icmp .eq 15, 3) := by decide +kernel
theorem dX9_goDigit_57 : decode cX9_goDigit 57 = .ok (.iload_n 1, 1) := by decide +kernel
theorem dX9_goDigit_58 : decode cX9_goDigit 58 = .ok (.aload_n 0, 1) := by decide +kernel
theorem dX9_goDigit_59 : decode cX9_goDigit 59 = .ok (.getfield 13, 3) := by decide +kernel
theorem dX9_goDigit_62 : decode cX9_goDigit 62 = .ok (.iload_n 2, 1) := by decide +kernel
theorem dX9_goDigit_63 : decode cX9_goDigit 63 = .ok (.iconst 1, 1) := by decide +kernel
theorem dX9_goDigit_64 : decode cX9_goDigit 64 = .ok (.iadd, 1) := by decide +kernel
theorem dX9_goDigit_65 : decode cX9_goDigit 65 = .ok (.iaload, 1) := by decide +kernel
theorem dX9_goDigit_66 : decode cX9_goDigit 66 = .ok (.if_icmp .eq 7, 3) := by decide +kernel
theorem dX9_goDigit_69 : decode cX9_goDigit 69 = .ok (.iconst 1, 1) := by decide +kernel
theorem dX9_goDigit_70 : decode cX9_goDigit 70 = .ok (.goto 4, 3) := by decide +kernel
theorem dX9_goDigit_73 : decode cX9_goDigit 73 = .ok (.iconst 0, 1) := by decide +kernel
theorem dX9_goDigit_74 : decode cX9_goDigit 74 = .ok (.istore 4, 2) := by decide +kernel
theorem dX9_goDigit_76 : decode cX9_goDigit 76 = .ok (.aload_n 0, 1) := by decide +kernel
theorem dX9_goDigit_77 : decode cX9_goDigit 77 = .ok (.getfield 13, 3) := by decide +kernel
theorem dX9_goDigit_80 : decode cX9_goDigit 80 = .ok (.iload_n 2, 1) := by decide +kernel
theorem dX9_goDigit_81 : decode cX9_goDigit 81 = .ok (.aload_n 0, 1) := by decide +kernel
theorem dX9_goDigit_82 : decode cX9_goDigit 82 = .ok (.getfield 65, 3) := by decide +kernel
theorem dX9_goDigit_85 : decode cX9_goDigit 85 = .ok (.ifCond .ne 7, 3) := by decide +kernel
theorem dX9_goDigit_88 : decode cX9_goDigit 88 = .ok (.iconst 0, 1) := by decide +kernel
theorem dX9_goDigit_89 : decode cX9_goDigit 89 = .ok (.goto 9, 3) := by decide +kernel
theorem dX9_goDigit_92 : decode cX9_goDigit 92 = .ok (.aload_n 0, 1) := by decide +kernel
theorem dX9_goDigit_93 : decode cX9_goDigit 93 = .ok (.getfield 13, 3) := by decide +kernel
theorem dX9_goDigit_96 : decode cX9_goDigit 96 = .ok (.iload_n 2, 1) := by decide +kernel
theorem dX9_goDigit_97 : decode cX9_goDigit 97 = .ok (.iaload, 1) := by decide +kernel
theorem dX9_goDigit_98 : decode cX9_goDigit 98 = .ok (.iastore, 1) := by decide +kernel
theorem dX9_goDigit_99 : decode cX9_goDigit 99 = .ok (.aload_n 0, 1) := by decide +kernel
theorem dX9_goDigit_100 : decode cX9_goDigit 100 = .ok (.getfield 13, 3) := by decide +kernel
theorem dX9_goDigit_103 : decode cX9_goDigit 103 = .ok (.iload_n 2, 1) := by decide +kernel
theorem dX9_goDigit_104 : decode cX9_goDigit 104 = .ok (.iload_n 3, 1) := by decide +kernel
theorem dX9_goDigit_105 : decode cX9_goDigit 105 = .ok (.iadd, 1) := by decide +kernel
theorem dX9_goDigit_106 : decode cX9_goDigit 106 = .ok (.iload_n 1, 1) := by decide +kernel
theorem dX9_goDigit_107 : decode cX9_goDigit 107 = .ok (.iastore, 1) := by decide +kernel
theorem dX9_goDigit_108 : decode cX9_goDigit 108 = .ok (.aload_n 0, 1) := by decide +kernel
theorem dX9_goDigit_109 : decode cX9_goDigit 109 = .ok (.dup, 1) := by decide +kernel
theorem dX9_goDigit_110 : decode cX9_goDigit 110 = .ok (.getfield 62, 3) := by decide +kernel
theorem dX9_goDigit_113 : decode cX9_goDigit 113 = .ok (.iload_n 3, 1) := by decide +kernel
theorem dX9_goDigit_114 : decode cX9_goDigit 114 = .ok (.iconst 3, 1) := by decide +kernel
theorem dX9_goDigit_115 : decode cX9_goDigit 115 = .ok (.if_icmp .ne 7, 3) := by decide +kernel
theorem dX9_goDigit_118 : decode cX9_goDigit 118 = .ok (.iconst 1, 1) := by decide +kernel
theorem dX9_goDigit_119 : decode cX9_goDigit 119 = .ok (.goto 4, 3) := by decide +kernel
theorem dX9_goDigit_122 : decode cX9_goDigit 122 = .ok (.iconst 0, 1) := by decide +kernel
theorem dX9_goDigit_123 : decode cX9_goDigit 123 = .ok (.iadd, 1) := by decide +kernel
theorem dX9_goDigit_124 : decode cX9_goDigit 124 = .ok (.putfield 62, 3) := by decide +kernel
theorem dX9_goDigit_127 : decode cX9_goDigit 127 = .ok (.aload_n 0, 1) := by decide +kernel
theorem dX9_goDigit_128 : decode cX9_goDigit 128 = .ok (.iload_n 3, 1) := by decide +kernel
theorem dX9_goDigit_129 : decode cX9_goDigit 129 = .ok (.iconst 1, 1) := by decide +kernel
theorem dX9_goDigit_130 : decode cX9_goDigit 130 = .ok (.iadd, 1) := by decide +kernel
theorem dX9_goDigit_131 : decode cX9_goDigit 131 = .ok (.putfield 65, 3) := by decide +kernel
theorem dX9_goDigit_134 : decode cX9_goDigit 134 = .ok (.iload 4, 2) := by decide +kernel
theorem dX9_goDigit_136 : decode cX9_goDigit 136 = .ok (.ireturn, 1) := by decide +kernel
theorem dX9_go_0 : decode cX9_go 0 = .ok (.aload_n 0, 1) := by decide +kernel
theorem dX9_go_1 : decode cX9_go 1 = .ok (.getfield 65, 3) := by decide +kernel
theorem dX9_go_4 : decode cX9_go 4 = .ok (.iconst 4, 1) := by decide +kernel
theorem dX9_go_5 : decode cX9_go 5 = .ok (.if_icmp .ne 29, 3) := by decide +kernel
theorem dX9_go_8 : decode cX9_go 8 = .ok (.aload_n 0, 1) := by decide +kernel
theorem dX9_go_9 : decode cX9_go 9 = .ok (.iconst 0, 1) := by decide +kernel
theorem dX9_go_10 : decode cX9_go 10 = .ok (.putfield 65, 3) := by decide +kernel
theorem dX9_go_13 : decode cX9_go 13 = .ok (.iload_n 1, 1) := by decide +kernel
theorem dX9_go_14 : decode cX9_go 14 = .ok (.bipush 44, 2) := by decide +kernel
theorem dX9_go_16 : decode cX9_go 16 = .ok (.if_icmp .ne 16, 3) := by decide +kernel
theorem dX9_go_19 : decode cX9_go 19 = .ok (.aload_n 0, 1) := by decide +kernel
theorem dX9_go_20 : decode cX9_go 20 = .ok (.getfield 62, 3) := by decide +kernel
theorem dX9_go_23 : decode cX9_go 23 = .ok (.bipush 8, 2) := by decide +kernel
theorem dX9_go_25 : decode cX9_go 25 = .ok (.if_icmp .ge 7, 3) := by decide +kernel
theorem dX9_go_28 : decode cX9_go 28 = .ok (.iconst 1, 1) := by decide +kernel
theorem dX9_go_29 : decode cX9_go 29 = .ok (.goto 4, 3) := by decide +kernel
theorem dX9_go_32 : decode cX9_go 32 = .ok (.iconst 0, 1) := by decide +kernel
theorem dX9_go_33 : decode cX9_go 33 = .ok (.ireturn, 1) := by decide +kernel
theorem dX9_go_34 : decode cX9_go 34 = .ok (.aload_n 0, 1) := by decide +kernel
theorem dX9_go_35 : decode cX9_go 35 = .ok (.getfield 65, 3) := by decide +kernel
theorem dX9_go_38 : decode cX9_go 38 = .ok (.ifCond .ne 33, 3) := by decide +kernel
theorem dX9_go_41 : decode cX9_go 41 = .ok (.iload_n 1, 1) := by decide +kernel
theorem dX9_go_42 : decode cX9_go 42 = .ok (.invokestatic 76, 3) := by decide +kernel
theorem dX9_go_45 : decode cX9_go 45 = .ok (.iconst (-1), 1) := by decide +kernel
theorem dX9_go_46 : decode cX9_go 46 = .ok (.if_icmp .eq 25, 3) := by decide +kernel
theorem dX9_go_49 : decode cX9_go 49 = .ok (.aload_n 0, 1) := by decide +kernel
theorem dX9_go_50 : decode cX9_go 50 = .ok (.getfield 13, 3) := by decide +kernel
theorem dX9_go_53 : decode cX9_go 53 = .ok (.iconst 4, 1) := by decide +kernel
theorem dX9_go_54 : decode cX9_go 54 = .ok (.aload_n 0, 1) := by decide +kernel
theorem dX9_go_55 : decode cX9_go 55 = .ok (.getfield 62, 3) := by decide +kernel
theorem dX9_go_58 : decode cX9_go 58 = .ok (.imul, 1) := by decide +kernel
theorem dX9_go_59 : decode cX9_go 59 = .ok (.iload_n 1, 1) := by decide +kernel
theorem dX9_go_60 : decode cX9_go 60 = .ok (.invokestatic 76, 3) := by decide +kernel
theorem dX9_go_63 : decode cX9_go 63 = .ok (.iastore, 1) := by decide +kernel
theorem dX9_go_64 : decode cX9_go 64 = .ok (.aload_n 0, 1) := by decide +kernel
theorem dX9_go_65 : decode cX9_go 65 = .ok (.iconst 1, 1) := by decide +kernel
theorem dX9_go_66 : decode cX9_go 66 = .ok (.putfield 65, 3) := by decide +kernel
theorem dX9_go_69 : decode cX9_go 69 = .ok (.iconst 1, 1) := by decide +kernel
theorem dX9_go_70 : decode cX9_go 70 = .ok (.ireturn, 1) := by decide +kernel
theorem dX9_go_71 : decode cX9_go 71 = .ok (.aload_n 0, 1) := by decide +kernel
theorem dX9_go_72 : decode cX9_go 72 = .ok (.iload_n 1, 1) := by decide +kernel
theorem dX9_go_73 : decode cX9_go 73 = .ok (.bipush 48, 2) := by decide +kernel
theorem dX9_go_75 : decode cX9_go 75 = .ok (.isub, 1) := by decide +kernel
theorem dX9_go_76 : decode cX9_go 76 = .ok (.invokevirtual 80, 3) := by decide +kernel
theorem dX9_go_79 : decode cX9_go 79 = .ok (.ireturn, 1) := by decide +kernel
theorem dX9_faultOf_0 : decode cX9_faultOf 0 = .ok (.aload_n 0, 1) := by decide +kernel
theorem dX9_faultOf_1 : decode cX9_faultOf 1 = .ok (.iconst 0, 1) := by decide +kernel
theorem dX9_faultOf_2 : decode cX9_faultOf 2 = .ok (.putfield 62, 3) := by decide +kernel
theorem dX9_faultOf_5 : decode cX9_faultOf 5 = .ok (.aload_n 0, 1) := by decide +kernel
theorem dX9_faultOf_6 : decode cX9_faultOf 6 = .ok (.iconst 0, 1) := by decide +kernel
theorem dX9_faultOf_7 : decode cX9_faultOf 7 = .ok (.putfield 65, 3) := by decide +kernel
theorem dX9_faultOf_10 : decode cX9_faultOf 10 = .ok (.iconst 0, 1) := by decide +kernel
theorem dX9_faultOf_11 : decode cX9_faultOf 11 = .ok (.istore_n 1, 1) := by decide +kernel
theorem dX9_faultOf_12 : decode cX9_faultOf 12 = .ok (.iload_n 1, 1) := by decide +kernel
theorem dX9_faultOf_13 : decode cX9_faultOf 13 = .ok (.aload_n 0, 1) := by decide +kernel
theorem dX9_faultOf_14 : decode cX9_faultOf 14 = .ok (.getfield 59, 3) := by decide +kernel
theorem dX9_faultOf_17 : decode cX9_faultOf 17 = .ok (.if_icmp .ge 22, 3) := by decide +kernel
theorem dX9_faultOf_20 : decode cX9_faultOf 20 = .ok (.aload_n 0, 1) := by decide +kernel
theorem dX9_faultOf_21 : decode cX9_faultOf 21 = .ok (.aload_n 0, 1) := by decide +kernel
theorem dX9_faultOf_22 : decode cX9_faultOf 22 = .ok (.getfield 7, 3) := by decide +kernel
theorem dX9_faultOf_25 : decode cX9_faultOf 25 = .ok (.iload_n 1, 1) := by decide +kernel
theorem dX9_faultOf_26 : decode cX9_faultOf 26 = .ok (.iaload, 1) := by decide +kernel
theorem dX9_faultOf_27 : decode cX9_faultOf 27 = .ok (.invokevirtual 84, 3) := by decide +kernel
theorem dX9_faultOf_30 : decode cX9_faultOf 30 = .ok (.ifCond .eq 9, 3) := by decide +kernel
theorem dX9_faultOf_33 : decode cX9_faultOf 33 = .ok (.iinc 1 1, 3) := by decide +kernel
theorem dX9_faultOf_36 : decode cX9_faultOf 36 = .ok (.goto (-24), 3) := by decide +kernel
theorem dX9_faultOf_39 : decode cX9_faultOf 39 = .ok (.iload_n 1, 1) := by decide +kernel
theorem dX9_faultOf_40 : decode cX9_faultOf 40 = .ok (.ireturn, 1) := by decide +kernel
theorem dX9_fault_0 : decode cX9_fault 0 = .ok (.aload_n 0, 1) := by decide +kernel
theorem dX9_fault_1 : decode cX9_fault 1 = .ok (.invokevirtual 87, 3) := by decide +kernel
theorem dX9_fault_4 : decode cX9_fault 4 = .ok (.ireturn, 1) := by decide +kernel
theorem dX9_contracts_0 : decode cX9_contracts 0 = .ok (.aload_n 0, 1) := by decide +kernel
theorem dX9_contracts_1 : decode cX9_contracts 1 = .ok (.invokevirtual 87, 3) := by decide +kernel
theorem dX9_contracts_4 : decode cX9_contracts 4 = .ok (.aload_n 0, 1) := by decide +kernel
theorem dX9_contracts_5 : decode cX9_contracts 5 = .ok (.getfield 59, 3) := by decide +kernel
theorem dX9_contracts_8 : decode cX9_contracts 8 = .ok (.if_icmp .lt 11, 3) := by decide +kernel
theorem dX9_contracts_11 : decode cX9_contracts 11 = .ok (.aload_n 0, 1) := by decide +kernel
theorem dX9_contracts_12 : decode cX9_contracts 12 = .ok (.getfield 65, 3) := by decide +kernel
theorem dX9_contracts_15 : decode cX9_contracts 15 = .ok (.iconst 4, 1) := by decide +kernel
theorem dX9_contracts_16 : decode cX9_contracts 16 = .ok (.if_icmp .eq 6, 3) := by decide +kernel
theorem dX9_contracts_19 : decode cX9_contracts 19 = .ok (.bipush (-103), 2) := by decide +kernel
theorem dX9_contracts_21 : decode cX9_contracts 21 = .ok (.ireturn, 1) := by decide +kernel
theorem dX9_contracts_22 : decode cX9_contracts 22 = .ok (.aload_n 0, 1) := by decide +kernel
theorem dX9_contracts_23 : decode cX9_contracts 23 = .ok (.aload_n 0, 1) := by decide +kernel
theorem dX9_contracts_24 : decode cX9_contracts 24 = .ok (.getfield 62, 3) := by decide +kernel
theorem dX9_contracts_27 : decode cX9_contracts 27 = .ok (.putfield 91, 3) := by decide +kernel
theorem dX9_contracts_30 : decode cX9_contracts 30 = .ok (.iconst 0, 1) := by decide +kernel
theorem dX9_contracts_31 : decode cX9_contracts 31 = .ok (.istore_n 1, 1) := by decide +kernel
theorem dX9_contracts_32 : decode cX9_contracts 32 = .ok (.iload_n 1, 1) := by decide +kernel
theorem dX9_contracts_33 : decode cX9_contracts 33 = .ok (.iconst 4, 1) := by decide +kernel
theorem dX9_contracts_34 : decode cX9_contracts 34 = .ok (.aload_n 0, 1) := by decide +kernel
end
section
theorem dX9_contracts_35 : decode cX9_contracts 35 = .ok (.getfield 91, 3) := by decide +kernel
theorem dX9_contracts_38 : decode cX9_contracts 38 = .ok (.imul, 1) := by decide +kernel
theorem dX9_contracts_39 : decode cX9_contracts 39 = .ok (.if_icmp .ge 21, 3) := by decide +kernel
theorem dX9_contracts_42 : decode cX9_contracts 42 = .ok (.aload_n 0, 1) := by decide +kernel
theorem dX9_contracts_43 : decode cX9_contracts 43 = .ok (.getfield 16, 3) := by decide +kernel
theorem dX9_contracts_46 : decode cX9_contracts 46 = .ok (.iload_n 1, 1) := by decide +kernel
theorem dX9_contracts_47 : decode cX9_contracts 47 = .ok (.aload_n 0, 1) := by decide +kernel
theorem dX9_contracts_48 : decode cX9_contracts 48 = .ok (.getfield 13, 3) := by decide +kernel
theorem dX9_contracts_51 : decode cX9_contracts 51 = .ok (.iload_n 1, 1) := by decide +kernel
theorem dX9_contracts_52 : decode cX9_contracts 52 = .ok (.iaload, 1) := by decide +kernel
theorem dX9_contracts_53 : decode cX9_contracts 53 = .ok (.iastore, 1) := by decide +kernel
theorem dX9_contracts_54 : decode cX9_contracts 54 = .ok (.iinc 1 1, 3) := by decide +kernel
theorem dX9_contracts_57 : decode cX9_contracts 57 = .ok (.goto (-25), 3) := by decide +kernel
theorem dX9_contracts_60 : decode cX9_contracts 60 = .ok (.iconst 0, 1) := by decide +kernel
theorem dX9_contracts_61 : decode cX9_contracts 61 = .ok (.istore_n 1, 1) := by decide +kernel
theorem dX9_contracts_62 : decode cX9_contracts 62 = .ok (.iload_n 1, 1) := by decide +kernel
theorem dX9_contracts_63 : decode cX9_contracts 63 = .ok (.bipush 8, 2) := by decide +kernel
theorem dX9_contracts_65 : decode cX9_contracts 65 = .ok (.if_icmp .ge 17, 3) := by decide +kernel
theorem dX9_contracts_68 : decode cX9_contracts 68 = .ok (.aload_n 0, 1) := by decide +kernel
theorem dX9_contracts_69 : decode cX9_contracts 69 = .ok (.getfield 19, 3) := by decide +kernel
theorem dX9_contracts_72 : decode cX9_contracts 72 = .ok (.iload_n 1, 1) := by decide +kernel
theorem dX9_contracts_73 : decode cX9_contracts 73 = .ok (.bipush 10, 2) := by decide +kernel
theorem dX9_contracts_75 : decode cX9_contracts 75 = .ok (.iastore, 1) := by decide +kernel
theorem dX9_contracts_76 : decode cX9_contracts 76 = .ok (.iinc 1 1, 3) := by decide +kernel
theorem dX9_contracts_79 : decode cX9_contracts 79 = .ok (.goto (-17), 3) := by decide +kernel
theorem dX9_contracts_82 : decode cX9_contracts 82 = .ok (.aload_n 0, 1) := by decide +kernel
theorem dX9_contracts_83 : decode cX9_contracts 83 = .ok (.iconst 1, 1) := by decide +kernel
theorem dX9_contracts_84 : decode cX9_contracts 84 = .ok (.aload_n 0, 1) := by decide +kernel
theorem dX9_contracts_85 : decode cX9_contracts 85 = .ok (.getfield 91, 3) := by decide +kernel
theorem dX9_contracts_88 : decode cX9_contracts 88 = .ok (.ishl, 1) := by decide +kernel
theorem dX9_contracts_89 : decode cX9_contracts 89 = .ok (.iconst 1, 1) := by decide +kernel
theorem dX9_contracts_90 : decode cX9_contracts 90 = .ok (.isub, 1) := by decide +kernel
theorem dX9_contracts_91 : decode cX9_contracts 91 = .ok (.putfield 94, 3) := by decide +kernel
theorem dX9_contracts_94 : decode cX9_contracts 94 = .ok (.aload_n 0, 1) := by decide +kernel
theorem dX9_contracts_95 : decode cX9_contracts 95 = .ok (.dup, 1) := by decide +kernel
theorem dX9_contracts_96 : decode cX9_contracts 96 = .ok (.getfield 97, 3) := by decide +kernel
theorem dX9_contracts_99 : decode cX9_contracts 99 = .ok (.iconst 1, 1) := by decide +kernel
theorem dX9_contracts_100 : decode cX9_contracts 100 = .ok (.iadd, 1) := by decide +kernel
theorem dX9_contracts_101 : decode cX9_contracts 101 = .ok (.putfield 97, 3) := by decide +kernel
theorem dX9_contracts_104 : decode cX9_contracts 104 = .ok (.aload_n 0, 1) := by decide +kernel
theorem dX9_contracts_105 : decode cX9_contracts 105 = .ok (.iconst 0, 1) := by decide +kernel
theorem dX9_contracts_106 : decode cX9_contracts 106 = .ok (.putfield 59, 3) := by decide +kernel
theorem dX9_contracts_109 : decode cX9_contracts 109 = .ok (.aload_n 0, 1) := by decide +kernel
theorem dX9_contracts_110 : decode cX9_contracts 110 = .ok (.getfield 91, 3) := by decide +kernel
theorem dX9_contracts_113 : decode cX9_contracts 113 = .ok (.ireturn, 1) := by decide +kernel
theorem dX9_lacks_0 : decode cX9_lacks 0 = .ok (.aload_n 0, 1) := by decide +kernel
theorem dX9_lacks_1 : decode cX9_lacks 1 = .ok (.getfield 91, 3) := by decide +kernel
theorem dX9_lacks_4 : decode cX9_lacks 4 = .ok (.ifCond .ne 7, 3) := by decide +kernel
theorem dX9_lacks_7 : decode cX9_lacks 7 = .ok (.iconst 1, 1) := by decide +kernel
theorem dX9_lacks_8 : decode cX9_lacks 8 = .ok (.goto 4, 3) := by decide +kernel
theorem dX9_lacks_11 : decode cX9_lacks 11 = .ok (.iconst 0, 1) := by decide +kernel
theorem dX9_lacks_12 : decode cX9_lacks 12 = .ok (.ireturn, 1) := by decide +kernel
theorem dX9_isThief_0 : decode cX9_isThief 0 = .ok (.iload_n 1, 1) := by decide +kernel
theorem dX9_isThief_1 : decode cX9_isThief 1 = .ok (.i2l, 1) := by decide +kernel
theorem dX9_isThief_2 : decode cX9_isThief 2 = .ok (.lconst 0, 1) := by decide +kernel
theorem dX9_isThief_3 : decode cX9_isThief 3 = .ok (.aload_n 0, 1) := by decide +kernel
theorem dX9_isThief_4 : decode cX9_isThief 4 = .ok (.getfield 91, 3) := by decide +kernel
theorem dX9_isThief_7 : decode cX9_isThief 7 = .ok (.iconst 1, 1) := by decide +kernel
theorem dX9_isThief_8 : decode cX9_isThief 8 = .ok (.isub, 1) := by decide +kernel
theorem dX9_isThief_9 : decode cX9_isThief 9 = .ok (.i2l, 1) := by decide +kernel
theorem dX9_isThief_10 : decode cX9_isThief 10 = .ok (.invokestatic 70, 3) := by decide +kernel
theorem dX9_isThief_13 : decode cX9_isThief 13 = .ok (.ireturn, 1) := by decide +kernel
theorem dX9_isHouse_0 : decode cX9_isHouse 0 = .ok (.iload_n 0, 1) := by decide +kernel
theorem dX9_isHouse_1 : decode cX9_isHouse 1 = .ok (.i2l, 1) := by decide +kernel
theorem dX9_isHouse_2 : decode cX9_isHouse 2 = .ok (.lconst 0, 1) := by decide +kernel
theorem dX9_isHouse_3 : decode cX9_isHouse 3 = .ok (.ldc2_w 74, 3) := by decide +kernel
theorem dX9_isHouse_6 : decode cX9_isHouse 6 = .ok (.invokestatic 70, 3) := by decide +kernel
theorem dX9_isHouse_9 : decode cX9_isHouse 9 = .ok (.ireturn, 1) := by decide +kernel
theorem dX9_tell_0 : decode cX9_tell 0 = .ok (.iload_n 2, 1) := by decide +kernel
theorem dX9_tell_1 : decode cX9_tell 1 = .ok (.i2l, 1) := by decide +kernel
theorem dX9_tell_2 : decode cX9_tell 2 = .ok (.lconst 0, 1) := by decide +kernel
theorem dX9_tell_3 : decode cX9_tell 3 = .ok (.ldc2_w 100, 3) := by decide +kernel
theorem dX9_tell_6 : decode cX9_tell 6 = .ok (.invokestatic 70, 3) := by decide +kernel
theorem dX9_tell_9 : decode cX9_tell 9 = .ok (.ifCond .eq 16, 3) := by decide +kernel
theorem dX9_tell_12 : decode cX9_tell 12 = .ok (.aload_n 0, 1) := by decide +kernel
theorem dX9_tell_13 : decode cX9_tell 13 = .ok (.getfield 16, 3) := by decide +kernel
theorem dX9_tell_16 : decode cX9_tell 16 = .ok (.iconst 4, 1) := by decide +kernel
theorem dX9_tell_17 : decode cX9_tell 17 = .ok (.iload_n 1, 1) := by decide +kernel
theorem dX9_tell_18 : decode cX9_tell 18 = .ok (.imul, 1) := by decide +kernel
theorem dX9_tell_19 : decode cX9_tell 19 = .ok (.iload_n 2, 1) := by decide +kernel
theorem dX9_tell_20 : decode cX9_tell 20 = .ok (.iadd, 1) := by decide +kernel
theorem dX9_tell_21 : decode cX9_tell 21 = .ok (.iaload, 1) := by decide +kernel
theorem dX9_tell_22 : decode cX9_tell 22 = .ok (.goto 35, 3) := by decide +kernel
theorem dX9_tell_25 : decode cX9_tell 25 = .ok (.iload_n 2, 1) := by decide +kernel
theorem dX9_tell_26 : decode cX9_tell 26 = .ok (.iconst 4, 1) := by decide +kernel
theorem dX9_tell_27 : decode cX9_tell 27 = .ok (.if_icmp .ne 14, 3) := by decide +kernel
theorem dX9_tell_30 : decode cX9_tell 30 = .ok (.aload_n 0, 1) := by decide +kernel
theorem dX9_tell_31 : decode cX9_tell 31 = .ok (.getfield 94, 3) := by decide +kernel
theorem dX9_tell_34 : decode cX9_tell 34 = .ok (.iload_n 1, 1) := by decide +kernel
theorem dX9_tell_35 : decode cX9_tell 35 = .ok (.ishr, 1) := by decide +kernel
theorem dX9_tell_36 : decode cX9_tell 36 = .ok (.iconst 1, 1) := by decide +kernel
theorem dX9_tell_37 : decode cX9_tell 37 = .ok (.iand, 1) := by decide +kernel
theorem dX9_tell_38 : decode cX9_tell 38 = .ok (.goto 19, 3) := by decide +kernel
theorem dX9_tell_41 : decode cX9_tell 41 = .ok (.iload_n 2, 1) := by decide +kernel
theorem dX9_tell_42 : decode cX9_tell 42 = .ok (.iconst 5, 1) := by decide +kernel
theorem dX9_tell_43 : decode cX9_tell 43 = .ok (.if_icmp .ne 12, 3) := by decide +kernel
theorem dX9_tell_46 : decode cX9_tell 46 = .ok (.aload_n 0, 1) := by decide +kernel
theorem dX9_tell_47 : decode cX9_tell 47 = .ok (.getfield 19, 3) := by decide +kernel
theorem dX9_tell_50 : decode cX9_tell 50 = .ok (.iload_n 1, 1) := by decide +kernel
theorem dX9_tell_51 : decode cX9_tell 51 = .ok (.iaload, 1) := by decide +kernel
theorem dX9_tell_52 : decode cX9_tell 52 = .ok (.goto 5, 3) := by decide +kernel
theorem dX9_tell_55 : decode cX9_tell 55 = .ok (.bipush (-102), 2) := by decide +kernel
theorem dX9_tell_57 : decode cX9_tell 57 = .ok (.ireturn, 1) := by decide +kernel
theorem dX9_about_0 : decode cX9_about 0 = .ok (.aload_n 0, 1) := by decide +kernel
theorem dX9_about_1 : decode cX9_about 1 = .ok (.iload_n 1, 1) := by decide +kernel
theorem dX9_about_2 : decode cX9_about 2 = .ok (.invokevirtual 102, 3) := by decide +kernel
theorem dX9_about_5 : decode cX9_about 5 = .ok (.ifCond .eq 12, 3) := by decide +kernel
theorem dX9_about_8 : decode cX9_about 8 = .ok (.aload_n 0, 1) := by decide +kernel
theorem dX9_about_9 : decode cX9_about 9 = .ok (.iload_n 1, 1) := by decide +kernel
theorem dX9_about_10 : decode cX9_about 10 = .ok (.iload_n 2, 1) := by decide +kernel
theorem dX9_about_11 : decode cX9_about 11 = .ok (.invokevirtual 105, 3) := by decide +kernel
theorem dX9_about_14 : decode cX9_about 14 = .ok (.goto 5, 3) := by decide +kernel
theorem dX9_about_17 : decode cX9_about 17 = .ok (.bipush (-101), 2) := by decide +kernel
theorem dX9_about_19 : decode cX9_about 19 = .ok (.ireturn, 1) := by decide +kernel
theorem dX9_as_0 : decode cX9_as 0 = .ok (.aload_n 0, 1) := by decide +kernel
theorem dX9_as_1 : decode cX9_as 1 = .ok (.iload_n 1, 1) := by decide +kernel
theorem dX9_as_2 : decode cX9_as 2 = .ok (.invokevirtual 102, 3) := by decide +kernel
theorem dX9_as_5 : decode cX9_as 5 = .ok (.ifCond .ne 6, 3) := by decide +kernel
theorem dX9_as_8 : decode cX9_as 8 = .ok (.bipush (-101), 2) := by decide +kernel
theorem dX9_as_10 : decode cX9_as 10 = .ok (.ireturn, 1) := by decide +kernel
theorem dX9_as_11 : decode cX9_as 11 = .ok (.iload_n 2, 1) := by decide +kernel
theorem dX9_as_12 : decode cX9_as 12 = .ok (.i2l, 1) := by decide +kernel
theorem dX9_as_13 : decode cX9_as 13 = .ok (.lconst 0, 1) := by decide +kernel
theorem dX9_as_14 : decode cX9_as 14 = .ok (.ldc2_w 109, 3) := by decide +kernel
theorem dX9_as_17 : decode cX9_as 17 = .ok (.invokestatic 70, 3) := by decide +kernel
theorem dX9_as_20 : decode cX9_as 20 = .ok (.ifCond .ne 6, 3) := by decide +kernel
theorem dX9_as_23 : decode cX9_as 23 = .ok (.bipush (-102), 2) := by decide +kernel
theorem dX9_as_25 : decode cX9_as 25 = .ok (.ireturn, 1) := by decide +kernel
theorem dX9_as_26 : decode cX9_as 26 = .ok (.aload_n 0, 1) := by decide +kernel
theorem dX9_as_27 : decode cX9_as 27 = .ok (.getfield 16, 3) := by decide +kernel
theorem dX9_as_30 : decode cX9_as 30 = .ok (.iconst 4, 1) := by decide +kernel
theorem dX9_as_31 : decode cX9_as 31 = .ok (.iload_n 1, 1) := by decide +kernel
theorem dX9_as_32 : decode cX9_as 32 = .ok (.imul, 1) := by decide +kernel
theorem dX9_as_33 : decode cX9_as 33 = .ok (.iaload, 1) := by decide +kernel
theorem dX9_as_34 : decode cX9_as 34 = .ok (.istore_n 3, 1) := by decide +kernel
theorem dX9_as_35 : decode cX9_as 35 = .ok (.iload_n 2, 1) := by decide +kernel
theorem dX9_as_36 : decode cX9_as 36 = .ok (.ifCond .eq 18, 3) := by decide +kernel
theorem dX9_as_39 : decode cX9_as 39 = .ok (.iload_n 2, 1) := by decide +kernel
theorem dX9_as_40 : decode cX9_as 40 = .ok (.iload_n 3, 1) := by decide +kernel
theorem dX9_as_41 : decode cX9_as 41 = .ok (.if_icmp .eq 13, 3) := by decide +kernel
theorem dX9_as_44 : decode cX9_as 44 = .ok (.iload_n 2, 1) := by decide +kernel
theorem dX9_as_45 : decode cX9_as 45 = .ok (.iconst 1, 1) := by decide +kernel
theorem dX9_as_46 : decode cX9_as 46 = .ok (.if_icmp .ne 12, 3) := by decide +kernel
theorem dX9_as_49 : decode cX9_as 49 = .ok (.iload_n 3, 1) := by decide +kernel
theorem dX9_as_50 : decode cX9_as 50 = .ok (.iconst 4, 1) := by decide +kernel
theorem dX9_as_51 : decode cX9_as 51 = .ok (.if_icmp .ne 7, 3) := by decide +kernel
theorem dX9_as_54 : decode cX9_as 54 = .ok (.iconst 1, 1) := by decide +kernel
theorem dX9_as_55 : decode cX9_as 55 = .ok (.goto 4, 3) := by decide +kernel
theorem dX9_as_58 : decode cX9_as 58 = .ok (.iconst 0, 1) := by decide +kernel
theorem dX9_as_59 : decode cX9_as 59 = .ok (.istore 4, 2) := by decide +kernel
theorem dX9_as_61 : decode cX9_as 61 = .ok (.iload 4, 2) := by decide +kernel
theorem dX9_as_63 : decode cX9_as 63 = .ok (.ifCond .eq 7, 3) := by decide +kernel
theorem dX9_as_66 : decode cX9_as 66 = .ok (.iload_n 1, 1) := by decide +kernel
theorem dX9_as_67 : decode cX9_as 67 = .ok (.goto 4, 3) := by decide +kernel
theorem dX9_as_70 : decode cX9_as 70 = .ok (.iconst (-1), 1) := by decide +kernel
theorem dX9_as_71 : decode cX9_as 71 = .ok (.ireturn, 1) := by decide +kernel
theorem dX9_paid_0 : decode cX9_paid 0 = .ok (.aload_n 0, 1) := by decide +kernel
theorem dX9_paid_1 : decode cX9_paid 1 = .ok (.iload_n 1, 1) := by decide +kernel
theorem dX9_paid_2 : decode cX9_paid 2 = .ok (.invokevirtual 102, 3) := by decide +kernel
theorem dX9_paid_5 : decode cX9_paid 5 = .ok (.ifCond .ne 6, 3) := by decide +kernel
theorem dX9_paid_8 : decode cX9_paid 8 = .ok (.bipush (-101), 2) := by decide +kernel
theorem dX9_paid_10 : decode cX9_paid 10 = .ok (.ireturn, 1) := by decide +kernel
theorem dX9_paid_11 : decode cX9_paid 11 = .ok (.aload_n 0, 1) := by decide +kernel
theorem dX9_paid_12 : decode cX9_paid 12 = .ok (.getfield 94, 3) := by decide +kernel
theorem dX9_paid_15 : decode cX9_paid 15 = .ok (.iload_n 1, 1) := by decide +kernel
theorem dX9_paid_16 : decode cX9_paid 16 = .ok (.ishr, 1) := by decide +kernel
theorem dX9_paid_17 : decode cX9_paid 17 = .ok (.iconst 1, 1) := by decide +kernel
theorem dX9_paid_18 : decode cX9_paid 18 = .ok (.iand, 1) := by decide +kernel
theorem dX9_paid_19 : decode cX9_paid 19 = .ok (.istore_n 3, 1) := by decide +kernel
theorem dX9_paid_20 : decode cX9_paid 20 = .ok (.aload_n 0, 1) := by decide +kernel
theorem dX9_paid_21 : decode cX9_paid 21 = .ok (.iload_n 2, 1) := by decide +kernel
theorem dX9_paid_22 : decode cX9_paid 22 = .ok (.ifCond .eq 14, 3) := by decide +kernel
theorem dX9_paid_25 : decode cX9_paid 25 = .ok (.aload_n 0, 1) := by decide +kernel
theorem dX9_paid_26 : decode cX9_paid 26 = .ok (.getfield 94, 3) := by decide +kernel
theorem dX9_paid_29 : decode cX9_paid 29 = .ok (.iconst 1, 1) := by decide +kernel
theorem dX9_paid_30 : decode cX9_paid 30 = .ok (.iload_n 1, 1) := by decide +kernel
theorem dX9_paid_31 : decode cX9_paid 31 = .ok (.ishl, 1) := by decide +kernel
theorem dX9_paid_32 : decode cX9_paid 32 = .ok (.ior, 1) := by decide +kernel
theorem dX9_paid_33 : decode cX9_paid 33 = .ok (.goto 13, 3) := by decide +kernel
theorem dX9_paid_36 : decode cX9_paid 36 = .ok (.aload_n 0, 1) := by decide +kernel
theorem dX9_paid_37 : decode cX9_paid 37 = .ok (.getfield 94, 3) := by decide +kernel
theorem dX9_paid_40 : decode cX9_paid 40 = .ok (.iconst 1, 1) := by decide +kernel
theorem dX9_paid_41 : decode cX9_paid 41 = .ok (.iload_n 1, 1) := by decide +kernel
theorem dX9_paid_42 : decode cX9_paid 42 = .ok (.ishl, 1) := by decide +kernel
theorem dX9_paid_43 : decode cX9_paid 43 = .ok (.iconst (-1), 1) := by decide +kernel
theorem dX9_paid_44 : decode cX9_paid 44 = .ok (.ixor, 1) := by decide +kernel
theorem dX9_paid_45 : decode cX9_paid 45 = .ok (.iand, 1) := by decide +kernel
theorem dX9_paid_46 : decode cX9_paid 46 = .ok (.putfield 94, 3) := by decide +kernel
theorem dX9_paid_49 : decode cX9_paid 49 = .ok (.iload_n 3, 1) := by decide +kernel
theorem dX9_paid_50 : decode cX9_paid 50 = .ok (.ireturn, 1) := by decide +kernel
theorem dX9_tenths_0 : decode cX9_tenths 0 = .ok (.aload_n 0, 1) := by decide +kernel
theorem dX9_tenths_1 : decode cX9_tenths 1 = .ok (.iload_n 1, 1) := by decide +kernel
theorem dX9_tenths_2 : decode cX9_tenths 2 = .ok (.invokevirtual 102, 3) := by decide +kernel
theorem dX9_tenths_5 : decode cX9_tenths 5 = .ok (.ifCond .ne 6, 3) := by decide +kernel
theorem dX9_tenths_8 : decode cX9_tenths 8 = .ok (.bipush (-101), 2) := by decide +kernel
theorem dX9_tenths_10 : decode cX9_tenths 10 = .ok (.ireturn, 1) := by decide +kernel
theorem dX9_tenths_11 : decode cX9_tenths 11 = .ok (.iload_n 2, 1) := by decide +kernel
theorem dX9_tenths_12 : decode cX9_tenths 12 = .ok (.i2l, 1) := by decide +kernel
theorem dX9_tenths_13 : decode cX9_tenths 13 = .ok (.lconst 0, 1) := by decide +kernel
theorem dX9_tenths_14 : decode cX9_tenths 14 = .ok (.ldc2_w 111, 3) := by decide +kernel
theorem dX9_tenths_17 : decode cX9_tenths 17 = .ok (.invokestatic 70, 3) := by decide +kernel
theorem dX9_tenths_20 : decode cX9_tenths 20 = .ok (.ifCond .ne 6, 3) := by decide +kernel
theorem dX9_tenths_23 : decode cX9_tenths 23 = .ok (.bipush (-102), 2) := by decide +kernel
theorem dX9_tenths_25 : decode cX9_tenths 25 = .ok (.ireturn, 1) := by decide +kernel
theorem dX9_tenths_26 : decode cX9_tenths 26 = .ok (.aload_n 0, 1) := by decide +kernel
theorem dX9_tenths_27 : decode cX9_tenths 27 = .ok (.getfield 19, 3) := by decide +kernel
theorem dX9_tenths_30 : decode cX9_tenths 30 = .ok (.iload_n 1, 1) := by decide +kernel
theorem dX9_tenths_31 : decode cX9_tenths 31 = .ok (.iaload, 1) := by decide +kernel
theorem dX9_tenths_32 : decode cX9_tenths 32 = .ok (.istore_n 3, 1) := by decide +kernel
theorem dX9_tenths_33 : decode cX9_tenths 33 = .ok (.aload_n 0, 1) := by decide +kernel
theorem dX9_tenths_34 : decode cX9_tenths 34 = .ok (.getfield 19, 3) := by decide +kernel
theorem dX9_tenths_37 : decode cX9_tenths 37 = .ok (.iload_n 1, 1) := by decide +kernel
theorem dX9_tenths_38 : decode cX9_tenths 38 = .ok (.iload_n 2, 1) := by decide +kernel
theorem dX9_tenths_39 : decode cX9_tenths 39 = .ok (.iastore, 1) := by decide +kernel
theorem dX9_tenths_40 : decode cX9_tenths 40 = .ok (.iload_n 3, 1) := by decide +kernel
theorem dX9_tenths_41 : decode cX9_tenths 41 = .ok (.ireturn, 1) := by decide +kernel
theorem dX9_isSpoon_0 : decode cX9_isSpoon 0 = .ok (.iload_n 1, 1) := by decide +kernel
theorem dX9_isSpoon_1 : decode cX9_isSpoon 1 = .ok (.i2l, 1) := by decide +kernel
theorem dX9_isSpoon_2 : decode cX9_isSpoon 2 = .ok (.lconst 0, 1) := by decide +kernel
theorem dX9_isSpoon_3 : decode cX9_isSpoon 3 = .ok (.aload_n 0, 1) := by decide +kernel
theorem dX9_isSpoon_4 : decode cX9_isSpoon 4 = .ok (.getfield 113, 3) := by decide +kernel
theorem dX9_isSpoon_7 : decode cX9_isSpoon 7 = .ok (.iconst 1, 1) := by decide +kernel
theorem dX9_isSpoon_8 : decode cX9_isSpoon 8 = .ok (.isub, 1) := by decide +kernel
theorem dX9_isSpoon_9 : decode cX9_isSpoon 9 = .ok (.i2l, 1) := by decide +kernel
theorem dX9_isSpoon_10 : decode cX9_isSpoon 10 = .ok (.invokestatic 70, 3) := by decide +kernel
theorem dX9_isSpoon_13 : decode cX9_isSpoon 13 = .ok (.ireturn, 1) := by decide +kernel
theorem dX9_lock_0 : decode cX9_lock 0 = .ok (.iload_n 1, 1) := by decide +kernel
theorem dX9_lock_1 : decode cX9_lock 1 = .ok (.invokestatic 116, 3) := by decide +kernel
theorem dX9_lock_4 : decode cX9_lock 4 = .ok (.ifCond .ne 6, 3) := by decide +kernel
theorem dX9_lock_7 : decode cX9_lock 7 = .ok (.bipush (-101), 2) := by decide +kernel
theorem dX9_lock_9 : decode cX9_lock 9 = .ok (.ireturn, 1) := by decide +kernel
theorem dX9_lock_10 : decode cX9_lock 10 = .ok (.iload_n 2, 1) := by decide +kernel
theorem dX9_lock_11 : decode cX9_lock 11 = .ok (.i2l, 1) := by decide +kernel
theorem dX9_lock_12 : decode cX9_lock 12 = .ok (.lconst 0, 1) := by decide +kernel
theorem dX9_lock_13 : decode cX9_lock 13 = .ok (.ldc2_w 68, 3) := by decide +kernel
theorem dX9_lock_16 : decode cX9_lock 16 = .ok (.invokestatic 70, 3) := by decide +kernel
theorem dX9_lock_19 : decode cX9_lock 19 = .ok (.ifCond .ne 6, 3) := by decide +kernel
theorem dX9_lock_22 : decode cX9_lock 22 = .ok (.bipush (-102), 2) := by decide +kernel
theorem dX9_lock_24 : decode cX9_lock 24 = .ok (.ireturn, 1) := by decide +kernel
theorem dX9_lock_25 : decode cX9_lock 25 = .ok (.aload_n 0, 1) := by decide +kernel
theorem dX9_lock_26 : decode cX9_lock 26 = .ok (.getfield 22, 3) := by decide +kernel
theorem dX9_lock_29 : decode cX9_lock 29 = .ok (.iload_n 1, 1) := by decide +kernel
theorem dX9_lock_30 : decode cX9_lock 30 = .ok (.iaload, 1) := by decide +kernel
theorem dX9_lock_31 : decode cX9_lock 31 = .ok (.istore_n 3, 1) := by decide +kernel
theorem dX9_lock_32 : decode cX9_lock 32 = .ok (.aload_n 0, 1) := by decide +kernel
theorem dX9_lock_33 : decode cX9_lock 33 = .ok (.getfield 22, 3) := by decide +kernel
theorem dX9_lock_36 : decode cX9_lock 36 = .ok (.iload_n 1, 1) := by decide +kernel
theorem dX9_lock_37 : decode cX9_lock 37 = .ok (.iload_n 2, 1) := by decide +kernel
theorem dX9_lock_38 : decode cX9_lock 38 = .ok (.iastore, 1) := by decide +kernel
theorem dX9_lock_39 : decode cX9_lock 39 = .ok (.iload_n 3, 1) := by decide +kernel
theorem dX9_lock_40 : decode cX9_lock 40 = .ok (.ireturn, 1) := by decide +kernel
theorem dX9_dog_0 : decode cX9_dog 0 = .ok (.iload_n 1, 1) := by decide +kernel
theorem dX9_dog_1 : decode cX9_dog 1 = .ok (.invokestatic 116, 3) := by decide +kernel
theorem dX9_dog_4 : decode cX9_dog 4 = .ok (.ifCond .ne 6, 3) := by decide +kernel
theorem dX9_dog_7 : decode cX9_dog 7 = .ok (.bipush (-101), 2) := by decide +kernel
theorem dX9_dog_9 : decode cX9_dog 9 = .ok (.ireturn, 1) := by decide +kernel
theorem dX9_dog_10 : decode cX9_dog 10 = .ok (.aload_n 0, 1) := by decide +kernel
theorem dX9_dog_11 : decode cX9_dog 11 = .ok (.getfield 119, 3) := by decide +kernel
theorem dX9_dog_14 : decode cX9_dog 14 = .ok (.iload_n 1, 1) := by decide +kernel
theorem dX9_dog_15 : decode cX9_dog 15 = .ok (.ishr, 1) := by decide +kernel
theorem dX9_dog_16 : decode cX9_dog 16 = .ok (.iconst 1, 1) := by decide +kernel
theorem dX9_dog_17 : decode cX9_dog 17 = .ok (.iand, 1) := by decide +kernel
theorem dX9_dog_18 : decode cX9_dog 18 = .ok (.istore_n 3, 1) := by decide +kernel
theorem dX9_dog_19 : decode cX9_dog 19 = .ok (.aload_n 0, 1) := by decide +kernel
theorem dX9_dog_20 : decode cX9_dog 20 = .ok (.iload_n 2, 1) := by decide +kernel
theorem dX9_dog_21 : decode cX9_dog 21 = .ok (.ifCond .eq 14, 3) := by decide +kernel
theorem dX9_dog_24 : decode cX9_dog 24 = .ok (.aload_n 0, 1) := by decide +kernel
theorem dX9_dog_25 : decode cX9_dog 25 = .ok (.getfield 119, 3) := by decide +kernel
theorem dX9_dog_28 : decode cX9_dog 28 = .ok (.iconst 1, 1) := by decide +kernel
theorem dX9_dog_29 : decode cX9_dog 29 = .ok (.iload_n 1, 1) := by decide +kernel
theorem dX9_dog_30 : decode cX9_dog 30 = .ok (.ishl, 1) := by decide +kernel
theorem dX9_dog_31 : decode cX9_dog 31 = .ok (.ior, 1) := by decide +kernel
theorem dX9_dog_32 : decode cX9_dog 32 = .ok (.goto 13, 3) := by decide +kernel
theorem dX9_dog_35 : decode cX9_dog 35 = .ok (.aload_n 0, 1) := by decide +kernel
theorem dX9_dog_36 : decode cX9_dog 36 = .ok (.getfield 119, 3) := by decide +kernel
theorem dX9_dog_39 : decode cX9_dog 39 = .ok (.iconst 1, 1) := by decide +kernel
theorem dX9_dog_40 : decode cX9_dog 40 = .ok (.iload_n 1, 1) := by decide +kernel
theorem dX9_dog_41 : decode cX9_dog 41 = .ok (.ishl, 1) := by decide +kernel
theorem dX9_dog_42 : decode cX9_dog 42 = .ok (.iconst (-1), 1) := by decide +kernel
theorem dX9_dog_43 : decode cX9_dog 43 = .ok (.ixor, 1) := by decide +kernel
theorem dX9_dog_44 : decode cX9_dog 44 = .ok (.iand, 1) := by decide +kernel
theorem dX9_dog_45 : decode cX9_dog 45 = .ok (.putfield 119, 3) := by decide +kernel
theorem dX9_dog_48 : decode cX9_dog 48 = .ok (.iload_n 3, 1) := by decide +kernel
theorem dX9_dog_49 : decode cX9_dog 49 = .ok (.ireturn, 1) := by decide +kernel
theorem dX9_spoon_0 : decode cX9_spoon 0 = .ok (.iload_n 1, 1) := by decide +kernel
theorem dX9_spoon_1 : decode cX9_spoon 1 = .ok (.invokestatic 116, 3) := by decide +kernel
theorem dX9_spoon_4 : decode cX9_spoon 4 = .ok (.ifCond .ne 6, 3) := by decide +kernel
theorem dX9_spoon_7 : decode cX9_spoon 7 = .ok (.bipush (-101), 2) := by decide +kernel
theorem dX9_spoon_9 : decode cX9_spoon 9 = .ok (.ireturn, 1) := by decide +kernel
theorem dX9_spoon_10 : decode cX9_spoon 10 = .ok (.iload_n 2, 1) := by decide +kernel
theorem dX9_spoon_11 : decode cX9_spoon 11 = .ok (.i2l, 1) := by decide +kernel
theorem dX9_spoon_12 : decode cX9_spoon 12 = .ok (.lconst 1, 1) := by decide +kernel
theorem dX9_spoon_13 : decode cX9_spoon 13 = .ok (.ldc2_w 122, 3) := by decide +kernel
theorem dX9_spoon_16 : decode cX9_spoon 16 = .ok (.invokestatic 70, 3) := by decide +kernel
theorem dX9_spoon_19 : decode cX9_spoon 19 = .ok (.ifCond .ne 6, 3) := by decide +kernel
theorem dX9_spoon_22 : decode cX9_spoon 22 = .ok (.bipush (-102), 2) := by decide +kernel
theorem dX9_spoon_24 : decode cX9_spoon 24 = .ok (.ireturn, 1) := by decide +kernel
theorem dX9_spoon_25 : decode cX9_spoon 25 = .ok (.aload_n 0, 1) := by decide +kernel
theorem dX9_spoon_26 : decode cX9_spoon 26 = .ok (.getfield 113, 3) := by decide +kernel
theorem dX9_spoon_29 : decode cX9_spoon 29 = .ok (.bipush 8, 2) := by decide +kernel
theorem dX9_spoon_31 : decode cX9_spoon 31 = .ok (.if_icmp .ne 6, 3) := by decide +kernel
theorem dX9_spoon_34 : decode cX9_spoon 34 = .ok (.bipush (-104), 2) := by decide +kernel
theorem dX9_spoon_36 : decode cX9_spoon 36 = .ok (.ireturn, 1) := by decide +kernel
theorem dX9_spoon_37 : decode cX9_spoon 37 = .ok (.aload_n 0, 1) := by decide +kernel
theorem dX9_spoon_38 : decode cX9_spoon 38 = .ok (.getfield 25, 3) := by decide +kernel
theorem dX9_spoon_41 : decode cX9_spoon 41 = .ok (.iconst 4, 1) := by decide +kernel
theorem dX9_spoon_42 : decode cX9_spoon 42 = .ok (.aload_n 0, 1) := by decide +kernel
theorem dX9_spoon_43 : decode cX9_spoon 43 = .ok (.getfield 113, 3) := by decide +kernel
theorem dX9_spoon_46 : decode cX9_spoon 46 = .ok (.imul, 1) := by decide +kernel
theorem dX9_spoon_47 : decode cX9_spoon 47 = .ok (.iload_n 2, 1) := by decide +kernel
theorem dX9_spoon_48 : decode cX9_spoon 48 = .ok (.iastore, 1) := by decide +kernel
theorem dX9_spoon_49 : decode cX9_spoon 49 = .ok (.aload_n 0, 1) := by decide +kernel
theorem dX9_spoon_50 : decode cX9_spoon 50 = .ok (.getfield 25, 3) := by decide +kernel
theorem dX9_spoon_53 : decode cX9_spoon 53 = .ok (.iconst 4, 1) := by decide +kernel
theorem dX9_spoon_54 : decode cX9_spoon 54 = .ok (.aload_n 0, 1) := by decide +kernel
theorem dX9_spoon_55 : decode cX9_spoon 55 = .ok (.getfield 113, 3) := by decide +kernel
theorem dX9_spoon_58 : decode cX9_spoon 58 = .ok (.imul, 1) := by decide +kernel
theorem dX9_spoon_59 : decode cX9_spoon 59 = .ok (.iconst 1, 1) := by decide +kernel
theorem dX9_spoon_60 : decode cX9_spoon 60 = .ok (.iadd, 1) := by decide +kernel
theorem dX9_spoon_61 : decode cX9_spoon 61 = .ok (.iload_n 1, 1) := by decide +kernel
theorem dX9_spoon_62 : decode cX9_spoon 62 = .ok (.iastore, 1) := by decide +kernel
theorem dX9_spoon_63 : decode cX9_spoon 63 = .ok (.aload_n 0, 1) := by decide +kernel
theorem dX9_spoon_64 : decode cX9_spoon 64 = .ok (.getfield 25, 3) := by decide +kernel
theorem dX9_spoon_67 : decode cX9_spoon 67 = .ok (.iconst 4, 1) := by decide +kernel
theorem dX9_spoon_68 : decode cX9_spoon 68 = .ok (.aload_n 0, 1) := by decide +kernel
theorem dX9_spoon_69 : decode cX9_spoon 69 = .ok (.getfield 113, 3) := by decide +kernel
theorem dX9_spoon_72 : decode cX9_spoon 72 = .ok (.imul, 1) := by decide +kernel
theorem dX9_spoon_73 : decode cX9_spoon 73 = .ok (.iconst 2, 1) := by decide +kernel
theorem dX9_spoon_74 : decode cX9_spoon 74 = .ok (.iadd, 1) := by decide +kernel
theorem dX9_spoon_75 : decode cX9_spoon 75 = .ok (.iload_n 1, 1) := by decide +kernel
theorem dX9_spoon_76 : decode cX9_spoon 76 = .ok (.iastore, 1) := by decide +kernel
theorem dX9_spoon_77 : decode cX9_spoon 77 = .ok (.aload_n 0, 1) := by decide +kernel
theorem dX9_spoon_78 : decode cX9_spoon 78 = .ok (.getfield 25, 3) := by decide +kernel
theorem dX9_spoon_81 : decode cX9_spoon 81 = .ok (.iconst 4, 1) := by decide +kernel
theorem dX9_spoon_82 : decode cX9_spoon 82 = .ok (.aload_n 0, 1) := by decide +kernel
theorem dX9_spoon_83 : decode cX9_spoon 83 = .ok (.getfield 113, 3) := by decide +kernel
theorem dX9_spoon_86 : decode cX9_spoon 86 = .ok (.imul, 1) := by decide +kernel
theorem dX9_spoon_87 : decode cX9_spoon 87 = .ok (.iconst 3, 1) := by decide +kernel
theorem dX9_spoon_88 : decode cX9_spoon 88 = .ok (.iadd, 1) := by decide +kernel
theorem dX9_spoon_89 : decode cX9_spoon 89 = .ok (.iconst (-1), 1) := by decide +kernel
theorem dX9_spoon_90 : decode cX9_spoon 90 = .ok (.iastore, 1) := by decide +kernel
theorem dX9_spoon_91 : decode cX9_spoon 91 = .ok (.aload_n 0, 1) := by decide +kernel
theorem dX9_spoon_92 : decode cX9_spoon 92 = .ok (.dup, 1) := by decide +kernel
theorem dX9_spoon_93 : decode cX9_spoon 93 = .ok (.getfield 113, 3) := by decide +kernel
theorem dX9_spoon_96 : decode cX9_spoon 96 = .ok (.iconst 1, 1) := by decide +kernel
theorem dX9_spoon_97 : decode cX9_spoon 97 = .ok (.iadd, 1) := by decide +kernel
theorem dX9_spoon_98 : decode cX9_spoon 98 = .ok (.putfield 113, 3) := by decide +kernel
theorem dX9_spoon_101 : decode cX9_spoon 101 = .ok (.aload_n 0, 1) := by decide +kernel
theorem dX9_spoon_102 : decode cX9_spoon 102 = .ok (.getfield 113, 3) := by decide +kernel
theorem dX9_spoon_105 : decode cX9_spoon 105 = .ok (.iconst 1, 1) := by decide +kernel
theorem dX9_spoon_106 : decode cX9_spoon 106 = .ok (.isub, 1) := by decide +kernel
theorem dX9_spoon_107 : decode cX9_spoon 107 = .ok (.ireturn, 1) := by decide +kernel
theorem dX9_silver_0 : decode cX9_silver 0 = .ok (.aload_n 0, 1) := by decide +kernel
theorem dX9_silver_1 : decode cX9_silver 1 = .ok (.iload_n 1, 1) := by decide +kernel
theorem dX9_silver_2 : decode cX9_silver 2 = .ok (.invokevirtual 124, 3) := by decide +kernel
theorem dX9_silver_5 : decode cX9_silver 5 = .ok (.ifCond .ne 6, 3) := by decide +kernel
theorem dX9_silver_8 : decode cX9_silver 8 = .ok (.bipush (-101), 2) := by decide +kernel
theorem dX9_silver_10 : decode cX9_silver 10 = .ok (.ireturn, 1) := by decide +kernel
theorem dX9_silver_11 : decode cX9_silver 11 = .ok (.iload_n 2, 1) := by decide +kernel
theorem dX9_silver_12 : decode cX9_silver 12 = .ok (.i2l, 1) := by decide +kernel
theorem dX9_silver_13 : decode cX9_silver 13 = .ok (.lconst 0, 1) := by decide +kernel
theorem dX9_silver_14 : decode cX9_silver 14 = .ok (.ldc2_w 100, 3) := by decide +kernel
theorem dX9_silver_17 : decode cX9_silver 17 = .ok (.invokestatic 70, 3) := by decide +kernel
theorem dX9_silver_20 : decode cX9_silver 20 = .ok (.ifCond .eq 16, 3) := by decide +kernel
theorem dX9_silver_23 : decode cX9_silver 23 = .ok (.aload_n 0, 1) := by decide +kernel
theorem dX9_silver_24 : decode cX9_silver 24 = .ok (.getfield 25, 3) := by decide +kernel
theorem dX9_silver_27 : decode cX9_silver 27 = .ok (.iconst 4, 1) := by decide +kernel
theorem dX9_silver_28 : decode cX9_silver 28 = .ok (.iload_n 1, 1) := by decide +kernel
theorem dX9_silver_29 : decode cX9_silver 29 = .ok (.imul, 1) := by decide +kernel
theorem dX9_silver_30 : decode cX9_silver 30 = .ok (.iload_n 2, 1) := by decide +kernel
theorem dX9_silver_31 : decode cX9_silver 31 = .ok (.iadd, 1) := by decide +kernel
theorem dX9_silver_32 : decode cX9_silver 32 = .ok (.iaload, 1) := by decide +kernel
theorem dX9_silver_33 : decode cX9_silver 33 = .ok (.goto 5, 3) := by decide +kernel
theorem dX9_silver_36 : decode cX9_silver 36 = .ok (.bipush (-102), 2) := by decide +kernel
theorem dX9_silver_38 : decode cX9_silver 38 = .ok (.ireturn, 1) := by decide +kernel
theorem dX9_worthOf_0 : decode cX9_worthOf 0 = .ok (.iconst 0, 1) := by decide +kernel
theorem dX9_worthOf_1 : decode cX9_worthOf 1 = .ok (.istore_n 2, 1) := by decide +kernel
theorem dX9_worthOf_2 : decode cX9_worthOf 2 = .ok (.iconst 0, 1) := by decide +kernel
theorem dX9_worthOf_3 : decode cX9_worthOf 3 = .ok (.istore_n 3, 1) := by decide +kernel
theorem dX9_worthOf_4 : decode cX9_worthOf 4 = .ok (.iload_n 3, 1) := by decide +kernel
theorem dX9_worthOf_5 : decode cX9_worthOf 5 = .ok (.aload_n 0, 1) := by decide +kernel
theorem dX9_worthOf_6 : decode cX9_worthOf 6 = .ok (.getfield 113, 3) := by decide +kernel
theorem dX9_worthOf_9 : decode cX9_worthOf 9 = .ok (.if_icmp .ge 38, 3) := by decide +kernel
theorem dX9_worthOf_12 : decode cX9_worthOf 12 = .ok (.iload_n 2, 1) := by decide +kernel
theorem dX9_worthOf_13 : decode cX9_worthOf 13 = .ok (.aload_n 0, 1) := by decide +kernel
theorem dX9_worthOf_14 : decode cX9_worthOf 14 = .ok (.getfield 25, 3) := by decide +kernel
theorem dX9_worthOf_17 : decode cX9_worthOf 17 = .ok (.iconst 4, 1) := by decide +kernel
theorem dX9_worthOf_18 : decode cX9_worthOf 18 = .ok (.iload_n 3, 1) := by decide +kernel
theorem dX9_worthOf_19 : decode cX9_worthOf 19 = .ok (.imul, 1) := by decide +kernel
theorem dX9_worthOf_20 : decode cX9_worthOf 20 = .ok (.iconst 2, 1) := by decide +kernel
theorem dX9_worthOf_21 : decode cX9_worthOf 21 = .ok (.iadd, 1) := by decide +kernel
theorem dX9_worthOf_22 : decode cX9_worthOf 22 = .ok (.iaload, 1) := by decide +kernel
theorem dX9_worthOf_23 : decode cX9_worthOf 23 = .ok (.iload_n 1, 1) := by decide +kernel
theorem dX9_worthOf_24 : decode cX9_worthOf 24 = .ok (.if_icmp .ne 14, 3) := by decide +kernel
theorem dX9_worthOf_27 : decode cX9_worthOf 27 = .ok (.aload_n 0, 1) := by decide +kernel
theorem dX9_worthOf_28 : decode cX9_worthOf 28 = .ok (.getfield 25, 3) := by decide +kernel
theorem dX9_worthOf_31 : decode cX9_worthOf 31 = .ok (.iconst 4, 1) := by decide +kernel
theorem dX9_worthOf_32 : decode cX9_worthOf 32 = .ok (.iload_n 3, 1) := by decide +kernel
theorem dX9_worthOf_33 : decode cX9_worthOf 33 = .ok (.imul, 1) := by decide +kernel
theorem dX9_worthOf_34 : decode cX9_worthOf 34 = .ok (.iaload, 1) := by decide +kernel
theorem dX9_worthOf_35 : decode cX9_worthOf 35 = .ok (.goto 4, 3) := by decide +kernel
theorem dX9_worthOf_38 : decode cX9_worthOf 38 = .ok (.iconst 0, 1) := by decide +kernel
theorem dX9_worthOf_39 : decode cX9_worthOf 39 = .ok (.iadd, 1) := by decide +kernel
theorem dX9_worthOf_40 : decode cX9_worthOf 40 = .ok (.istore_n 2, 1) := by decide +kernel
theorem dX9_worthOf_41 : decode cX9_worthOf 41 = .ok (.iinc 3 1, 3) := by decide +kernel
theorem dX9_worthOf_44 : decode cX9_worthOf 44 = .ok (.goto (-40), 3) := by decide +kernel
theorem dX9_worthOf_47 : decode cX9_worthOf 47 = .ok (.iload_n 2, 1) := by decide +kernel
theorem dX9_worthOf_48 : decode cX9_worthOf 48 = .ok (.ireturn, 1) := by decide +kernel
theorem dX9_worth_0 : decode cX9_worth 0 = .ok (.iload_n 1, 1) := by decide +kernel
theorem dX9_worth_1 : decode cX9_worth 1 = .ok (.invokestatic 116, 3) := by decide +kernel
theorem dX9_worth_4 : decode cX9_worth 4 = .ok (.ifCond .eq 11, 3) := by decide +kernel
theorem dX9_worth_7 : decode cX9_worth 7 = .ok (.aload_n 0, 1) := by decide +kernel
theorem dX9_worth_8 : decode cX9_worth 8 = .ok (.iload_n 1, 1) := by decide +kernel
theorem dX9_worth_9 : decode cX9_worth 9 = .ok (.invokevirtual 127, 3) := by decide +kernel
theorem dX9_worth_12 : decode cX9_worth 12 = .ok (.goto 5, 3) := by decide +kernel
theorem dX9_worth_15 : decode cX9_worth 15 = .ok (.bipush (-101), 2) := by decide +kernel
theorem dX9_worth_17 : decode cX9_worth 17 = .ok (.ireturn, 1) := by decide +kernel
theorem dX9_begin_0 : decode cX9_begin 0 = .ok (.iconst 0, 1) := by decide +kernel
theorem dX9_begin_1 : decode cX9_begin 1 = .ok (.istore_n 1, 1) := by decide +kernel
theorem dX9_begin_2 : decode cX9_begin 2 = .ok (.iload_n 1, 1) := by decide +kernel
theorem dX9_begin_3 : decode cX9_begin 3 = .ok (.bipush 8, 2) := by decide +kernel
theorem dX9_begin_5 : decode cX9_begin 5 = .ok (.if_icmp .ge 49, 3) := by decide +kernel
theorem dX9_begin_8 : decode cX9_begin 8 = .ok (.aload_n 0, 1) := by decide +kernel
theorem dX9_begin_9 : decode cX9_begin 9 = .ok (.getfield 28, 3) := by decide +kernel
theorem dX9_begin_12 : decode cX9_begin 12 = .ok (.iload_n 1, 1) := by decide +kernel
theorem dX9_begin_13 : decode cX9_begin 13 = .ok (.iload_n 1, 1) := by decide +kernel
theorem dX9_begin_14 : decode cX9_begin 14 = .ok (.aload_n 0, 1) := by decide +kernel
theorem dX9_begin_15 : decode cX9_begin 15 = .ok (.getfield 113, 3) := by decide +kernel
theorem dX9_begin_18 : decode cX9_begin 18 = .ok (.if_icmp .ge 16, 3) := by decide +kernel
theorem dX9_begin_21 : decode cX9_begin 21 = .ok (.aload_n 0, 1) := by decide +kernel
theorem dX9_begin_22 : decode cX9_begin 22 = .ok (.getfield 25, 3) := by decide +kernel
theorem dX9_begin_25 : decode cX9_begin 25 = .ok (.iconst 4, 1) := by decide +kernel
theorem dX9_begin_26 : decode cX9_begin 26 = .ok (.iload_n 1, 1) := by decide +kernel
theorem dX9_begin_27 : decode cX9_begin 27 = .ok (.imul, 1) := by decide +kernel
theorem dX9_begin_28 : decode cX9_begin 28 = .ok (.iconst 2, 1) := by decide +kernel
theorem dX9_begin_29 : decode cX9_begin 29 = .ok (.iadd, 1) := by decide +kernel
theorem dX9_begin_30 : decode cX9_begin 30 = .ok (.iaload, 1) := by decide +kernel
theorem dX9_begin_31 : decode cX9_begin 31 = .ok (.goto 4, 3) := by decide +kernel
theorem dX9_begin_34 : decode cX9_begin 34 = .ok (.iconst (-1), 1) := by decide +kernel
theorem dX9_begin_35 : decode cX9_begin 35 = .ok (.iastore, 1) := by decide +kernel
theorem dX9_begin_36 : decode cX9_begin 36 = .ok (.aload_n 0, 1) := by decide +kernel
theorem dX9_begin_37 : decode cX9_begin 37 = .ok (.getfield 31, 3) := by decide +kernel
theorem dX9_begin_40 : decode cX9_begin 40 = .ok (.iload_n 1, 1) := by decide +kernel
theorem dX9_begin_41 : decode cX9_begin 41 = .ok (.aload_n 0, 1) := by decide +kernel
theorem dX9_begin_42 : decode cX9_begin 42 = .ok (.getfield 22, 3) := by decide +kernel
theorem dX9_begin_45 : decode cX9_begin 45 = .ok (.iload_n 1, 1) := by decide +kernel
theorem dX9_begin_46 : decode cX9_begin 46 = .ok (.iaload, 1) := by decide +kernel
theorem dX9_begin_47 : decode cX9_begin 47 = .ok (.iastore, 1) := by decide +kernel
theorem dX9_begin_48 : decode cX9_begin 48 = .ok (.iinc 1 1, 3) := by decide +kernel
theorem dX9_begin_51 : decode cX9_begin 51 = .ok (.goto (-49), 3) := by decide +kernel
theorem dX9_begin_54 : decode cX9_begin 54 = .ok (.return_, 1) := by decide +kernel
theorem dX9_fromOf_0 : decode cX9_fromOf 0 = .ok (.aload_n 0, 1) := by decide +kernel
theorem dX9_fromOf_1 : decode cX9_fromOf 1 = .ok (.getfield 16, 3) := by decide +kernel
theorem dX9_fromOf_4 : decode cX9_fromOf 4 = .ok (.iconst 4, 1) := by decide +kernel
theorem dX9_fromOf_5 : decode cX9_fromOf 5 = .ok (.iload_n 1, 1) := by decide +kernel
theorem dX9_fromOf_6 : decode cX9_fromOf 6 = .ok (.imul, 1) := by decide +kernel
theorem dX9_fromOf_7 : decode cX9_fromOf 7 = .ok (.iload_n 2, 1) := by decide +kernel
theorem dX9_fromOf_8 : decode cX9_fromOf 8 = .ok (.iload_n 1, 1) := by decide +kernel
theorem dX9_fromOf_9 : decode cX9_fromOf 9 = .ok (.ishr, 1) := by decide +kernel
theorem dX9_fromOf_10 : decode cX9_fromOf 10 = .ok (.iconst 1, 1) := by decide +kernel
theorem dX9_fromOf_11 : decode cX9_fromOf 11 = .ok (.iand, 1) := by decide +kernel
theorem dX9_fromOf_12 : decode cX9_fromOf 12 = .ok (.iconst 1, 1) := by decide +kernel
theorem dX9_fromOf_13 : decode cX9_fromOf 13 = .ok (.if_icmp .ne 7, 3) := by decide +kernel
theorem dX9_fromOf_16 : decode cX9_fromOf 16 = .ok (.iconst 2, 1) := by decide +kernel
theorem dX9_fromOf_17 : decode cX9_fromOf 17 = .ok (.goto 4, 3) := by decide +kernel
theorem dX9_fromOf_20 : decode cX9_fromOf 20 = .ok (.iconst 1, 1) := by decide +kernel
theorem dX9_fromOf_21 : decode cX9_fromOf 21 = .ok (.iadd, 1) := by decide +kernel
theorem dX9_fromOf_22 : decode cX9_fromOf 22 = .ok (.iaload, 1) := by decide +kernel
theorem dX9_fromOf_23 : decode cX9_fromOf 23 = .ok (.ireturn, 1) := by decide +kernel
theorem dX9_toOf_0 : decode cX9_toOf 0 = .ok (.aload_n 0, 1) := by decide +kernel
theorem dX9_toOf_1 : decode cX9_toOf 1 = .ok (.getfield 16, 3) := by decide +kernel
theorem dX9_toOf_4 : decode cX9_toOf 4 = .ok (.iconst 4, 1) := by decide +kernel
theorem dX9_toOf_5 : decode cX9_toOf 5 = .ok (.iload_n 1, 1) := by decide +kernel
theorem dX9_toOf_6 : decode cX9_toOf 6 = .ok (.imul, 1) := by decide +kernel
theorem dX9_toOf_7 : decode cX9_toOf 7 = .ok (.iload_n 2, 1) := by decide +kernel
theorem dX9_toOf_8 : decode cX9_toOf 8 = .ok (.iload_n 1, 1) := by decide +kernel
theorem dX9_toOf_9 : decode cX9_toOf 9 = .ok (.ishr, 1) := by decide +kernel
theorem dX9_toOf_10 : decode cX9_toOf 10 = .ok (.iconst 1, 1) := by decide +kernel
theorem dX9_toOf_11 : decode cX9_toOf 11 = .ok (.iand, 1) := by decide +kernel
theorem dX9_toOf_12 : decode cX9_toOf 12 = .ok (.iconst 1, 1) := by decide +kernel
theorem dX9_toOf_13 : decode cX9_toOf 13 = .ok (.if_icmp .ne 7, 3) := by decide +kernel
theorem dX9_toOf_16 : decode cX9_toOf 16 = .ok (.iconst 1, 1) := by decide +kernel
theorem dX9_toOf_17 : decode cX9_toOf 17 = .ok (.goto 4, 3) := by decide +kernel
theorem dX9_toOf_20 : decode cX9_toOf 20 = .ok (.iconst 2, 1) := by decide +kernel
theorem dX9_toOf_21 : decode cX9_toOf 21 = .ok (.iadd, 1) := by decide +kernel
theorem dX9_toOf_22 : decode cX9_toOf 22 = .ok (.iaload, 1) := by decide +kernel
theorem dX9_toOf_23 : decode cX9_toOf 23 = .ok (.ireturn, 1) := by decide +kernel
theorem dX9_mayTake_0 : decode cX9_mayTake 0 = .ok (.aload_n 0, 1) := by decide +kernel
theorem dX9_mayTake_1 : decode cX9_mayTake 1 = .ok (.getfield 16, 3) := by decide +kernel
theorem dX9_mayTake_4 : decode cX9_mayTake 4 = .ok (.iconst 4, 1) := by decide +kernel
theorem dX9_mayTake_5 : decode cX9_mayTake 5 = .ok (.iload_n 1, 1) := by decide +kernel
theorem dX9_mayTake_6 : decode cX9_mayTake 6 = .ok (.imul, 1) := by decide +kernel
theorem dX9_mayTake_7 : decode cX9_mayTake 7 = .ok (.iaload, 1) := by decide +kernel
theorem dX9_mayTake_8 : decode cX9_mayTake 8 = .ok (.istore_n 3, 1) := by decide +kernel
theorem dX9_mayTake_9 : decode cX9_mayTake 9 = .ok (.iload_n 3, 1) := by decide +kernel
theorem dX9_mayTake_10 : decode cX9_mayTake 10 = .ok (.iconst 3, 1) := by decide +kernel
theorem dX9_mayTake_11 : decode cX9_mayTake 11 = .ok (.if_icmp .eq 32, 3) := by decide +kernel
theorem dX9_mayTake_14 : decode cX9_mayTake 14 = .ok (.aload_n 0, 1) := by decide +kernel
theorem dX9_mayTake_15 : decode cX9_mayTake 15 = .ok (.getfield 119, 3) := by decide +kernel
theorem dX9_mayTake_18 : decode cX9_mayTake 18 = .ok (.iload_n 2, 1) := by decide +kernel
theorem dX9_mayTake_19 : decode cX9_mayTake 19 = .ok (.ishr, 1) := by decide +kernel
theorem dX9_mayTake_20 : decode cX9_mayTake 20 = .ok (.iconst 1, 1) := by decide +kernel
theorem dX9_mayTake_21 : decode cX9_mayTake 21 = .ok (.iand, 1) := by decide +kernel
theorem dX9_mayTake_22 : decode cX9_mayTake 22 = .ok (.ifCond .ne 21, 3) := by decide +kernel
theorem dX9_mayTake_25 : decode cX9_mayTake 25 = .ok (.aload_n 0, 1) := by decide +kernel
theorem dX9_mayTake_26 : decode cX9_mayTake 26 = .ok (.getfield 31, 3) := by decide +kernel
theorem dX9_mayTake_29 : decode cX9_mayTake 29 = .ok (.iload_n 2, 1) := by decide +kernel
theorem dX9_mayTake_30 : decode cX9_mayTake 30 = .ok (.iaload, 1) := by decide +kernel
theorem dX9_mayTake_31 : decode cX9_mayTake 31 = .ok (.ifCond .eq 8, 3) := by decide +kernel
theorem dX9_mayTake_34 : decode cX9_mayTake 34 = .ok (.iload_n 3, 1) := by decide +kernel
theorem dX9_mayTake_35 : decode cX9_mayTake 35 = .ok (.iconst 4, 1) := by decide +kernel
theorem dX9_mayTake_36 : decode cX9_mayTake 36 = .ok (.if_icmp .ne 7, 3) := by decide +kernel
theorem dX9_mayTake_39 : decode cX9_mayTake 39 = .ok (.iconst 1, 1) := by decide +kernel
theorem dX9_mayTake_40 : decode cX9_mayTake 40 = .ok (.goto 4, 3) := by decide +kernel
theorem dX9_mayTake_43 : decode cX9_mayTake 43 = .ok (.iconst 0, 1) := by decide +kernel
theorem dX9_mayTake_44 : decode cX9_mayTake 44 = .ok (.ireturn, 1) := by decide +kernel
theorem dX9_pick_0 : decode cX9_pick 0 = .ok (.iconst (-1), 1) := by decide +kernel
theorem dX9_pick_1 : decode cX9_pick 1 = .ok (.istore_n 3, 1) := by decide +kernel
theorem dX9_pick_2 : decode cX9_pick 2 = .ok (.iconst 0, 1) := by decide +kernel
theorem dX9_pick_3 : decode cX9_pick 3 = .ok (.istore 4, 2) := by decide +kernel
theorem dX9_pick_5 : decode cX9_pick 5 = .ok (.iload 4, 2) := by decide +kernel
theorem dX9_pick_7 : decode cX9_pick 7 = .ok (.aload_n 0, 1) := by decide +kernel
theorem dX9_pick_8 : decode cX9_pick 8 = .ok (.getfield 113, 3) := by decide +kernel
theorem dX9_pick_11 : decode cX9_pick 11 = .ok (.if_icmp .ge 88, 3) := by decide +kernel
theorem dX9_pick_14 : decode cX9_pick 14 = .ok (.aload_n 0, 1) := by decide +kernel
theorem dX9_pick_15 : decode cX9_pick 15 = .ok (.getfield 25, 3) := by decide +kernel
theorem dX9_pick_18 : decode cX9_pick 18 = .ok (.iconst 4, 1) := by decide +kernel
theorem dX9_pick_19 : decode cX9_pick 19 = .ok (.iload 4, 2) := by decide +kernel
theorem dX9_pick_21 : decode cX9_pick 21 = .ok (.imul, 1) := by decide +kernel
theorem dX9_pick_22 : decode cX9_pick 22 = .ok (.iaload, 1) := by decide +kernel
theorem dX9_pick_23 : decode cX9_pick 23 = .ok (.istore 5, 2) := by decide +kernel
theorem dX9_pick_25 : decode cX9_pick 25 = .ok (.iload_n 3, 1) := by decide +kernel
theorem dX9_pick_26 : decode cX9_pick 26 = .ok (.iconst (-1), 1) := by decide +kernel
theorem dX9_pick_27 : decode cX9_pick 27 = .ok (.if_icmp .eq 36, 3) := by decide +kernel
theorem dX9_pick_30 : decode cX9_pick 30 = .ok (.iload_n 2, 1) := by decide +kernel
theorem dX9_pick_31 : decode cX9_pick 31 = .ok (.ifCond .eq 19, 3) := by decide +kernel
theorem dX9_pick_34 : decode cX9_pick 34 = .ok (.iload 5, 2) := by decide +kernel
theorem dX9_pick_36 : decode cX9_pick 36 = .ok (.aload_n 0, 1) := by decide +kernel
theorem dX9_pick_37 : decode cX9_pick 37 = .ok (.getfield 25, 3) := by decide +kernel
theorem dX9_pick_40 : decode cX9_pick 40 = .ok (.iconst 4, 1) := by decide +kernel
theorem dX9_pick_41 : decode cX9_pick 41 = .ok (.iload_n 3, 1) := by decide +kernel
theorem dX9_pick_42 : decode cX9_pick 42 = .ok (.imul, 1) := by decide +kernel
theorem dX9_pick_43 : decode cX9_pick 43 = .ok (.iaload, 1) := by decide +kernel
theorem dX9_pick_44 : decode cX9_pick 44 = .ok (.if_icmp .ge 23, 3) := by decide +kernel
theorem dX9_pick_47 : decode cX9_pick 47 = .ok (.goto 16, 3) := by decide +kernel
theorem dX9_pick_50 : decode cX9_pick 50 = .ok (.iload 5, 2) := by decide +kernel
theorem dX9_pick_52 : decode cX9_pick 52 = .ok (.aload_n 0, 1) := by decide +kernel
theorem dX9_pick_53 : decode cX9_pick 53 = .ok (.getfield 25, 3) := by decide +kernel
theorem dX9_pick_56 : decode cX9_pick 56 = .ok (.iconst 4, 1) := by decide +kernel
theorem dX9_pick_57 : decode cX9_pick 57 = .ok (.iload_n 3, 1) := by decide +kernel
theorem dX9_pick_58 : decode cX9_pick 58 = .ok (.imul, 1) := by decide +kernel
theorem dX9_pick_59 : decode cX9_pick 59 = .ok (.iaload, 1) := by decide +kernel
theorem dX9_pick_60 : decode cX9_pick 60 = .ok (.if_icmp .le 7, 3) := by decide +kernel
theorem dX9_pick_63 : decode cX9_pick 63 = .ok (.iconst 1, 1) := by decide +kernel
theorem dX9_pick_64 : decode cX9_pick 64 = .ok (.goto 4, 3) := by decide +kernel
theorem dX9_pick_67 : decode cX9_pick 67 = .ok (.iconst 0, 1) := by decide +kernel
theorem dX9_pick_68 : decode cX9_pick 68 = .ok (.istore 6, 2) := by decide +kernel
theorem dX9_pick_70 : decode cX9_pick 70 = .ok (.aload_n 0, 1) := by decide +kernel
theorem dX9_pick_71 : decode cX9_pick 71 = .ok (.getfield 28, 3) := by decide +kernel
theorem dX9_pick_74 : decode cX9_pick 74 = .ok (.iload 4, 2) := by decide +kernel
theorem dX9_pick_76 : decode cX9_pick 76 = .ok (.iaload, 1) := by decide +kernel
theorem dX9_pick_77 : decode cX9_pick 77 = .ok (.iload_n 1, 1) := by decide +kernel
theorem dX9_pick_78 : decode cX9_pick 78 = .ok (.if_icmp .ne 13, 3) := by decide +kernel
theorem dX9_pick_81 : decode cX9_pick 81 = .ok (.iload 6, 2) := by decide +kernel
theorem dX9_pick_83 : decode cX9_pick 83 = .ok (.ifCond .eq 8, 3) := by decide +kernel
theorem dX9_pick_86 : decode cX9_pick 86 = .ok (.iload 4, 2) := by decide +kernel
theorem dX9_pick_88 : decode cX9_pick 88 = .ok (.goto 4, 3) := by decide +kernel
theorem dX9_pick_91 : decode cX9_pick 91 = .ok (.iload_n 3, 1) := by decide +kernel
theorem dX9_pick_92 : decode cX9_pick 92 = .ok (.istore_n 3, 1) := by decide +kernel
theorem dX9_pick_93 : decode cX9_pick 93 = .ok (.iinc 4 1, 3) := by decide +kernel
theorem dX9_pick_96 : decode cX9_pick 96 = .ok (.goto (-91), 3) := by decide +kernel
theorem dX9_pick_99 : decode cX9_pick 99 = .ok (.iload_n 3, 1) := by decide +kernel
theorem dX9_pick_100 : decode cX9_pick 100 = .ok (.ireturn, 1) := by decide +kernel
theorem dX9_visit_0 : decode cX9_visit 0 = .ok (.aload_n 0, 1) := by decide +kernel
theorem dX9_visit_1 : decode cX9_visit 1 = .ok (.iload_n 1, 1) := by decide +kernel
theorem dX9_visit_2 : decode cX9_visit 2 = .ok (.iload_n 2, 1) := by decide +kernel
theorem dX9_visit_3 : decode cX9_visit 3 = .ok (.invokevirtual 130, 3) := by decide +kernel
theorem dX9_visit_6 : decode cX9_visit 6 = .ok (.istore_n 3, 1) := by decide +kernel
theorem dX9_visit_7 : decode cX9_visit 7 = .ok (.iconst 0, 1) := by decide +kernel
theorem dX9_visit_8 : decode cX9_visit 8 = .ok (.istore 4, 2) := by decide +kernel
theorem dX9_visit_10 : decode cX9_visit 10 = .ok (.aload_n 0, 1) := by decide +kernel
theorem dX9_visit_11 : decode cX9_visit 11 = .ok (.iload_n 1, 1) := by decide +kernel
theorem dX9_visit_12 : decode cX9_visit 12 = .ok (.iload_n 3, 1) := by decide +kernel
theorem dX9_visit_13 : decode cX9_visit 13 = .ok (.invokevirtual 133, 3) := by decide +kernel
theorem dX9_visit_16 : decode cX9_visit 16 = .ok (.ifCond .eq 100, 3) := by decide +kernel
theorem dX9_visit_19 : decode cX9_visit 19 = .ok (.aload_n 0, 1) := by decide +kernel
theorem dX9_visit_20 : decode cX9_visit 20 = .ok (.getfield 16, 3) := by decide +kernel
theorem dX9_visit_23 : decode cX9_visit 23 = .ok (.iconst 4, 1) := by decide +kernel
theorem dX9_visit_24 : decode cX9_visit 24 = .ok (.iload_n 1, 1) := by decide +kernel
theorem dX9_visit_25 : decode cX9_visit 25 = .ok (.imul, 1) := by decide +kernel
theorem dX9_visit_26 : decode cX9_visit 26 = .ok (.iaload, 1) := by decide +kernel
theorem dX9_visit_27 : decode cX9_visit 27 = .ok (.istore 5, 2) := by decide +kernel
theorem dX9_visit_29 : decode cX9_visit 29 = .ok (.iload 5, 2) := by decide +kernel
theorem dX9_visit_31 : decode cX9_visit 31 = .ok (.iconst 1, 1) := by decide +kernel
theorem dX9_visit_32 : decode cX9_visit 32 = .ok (.if_icmp .eq 9, 3) := by decide +kernel
theorem dX9_visit_35 : decode cX9_visit 35 = .ok (.iload 5, 2) := by decide +kernel
theorem dX9_visit_37 : decode cX9_visit 37 = .ok (.iconst 4, 1) := by decide +kernel
theorem dX9_visit_38 : decode cX9_visit 38 = .ok (.if_icmp .ne 7, 3) := by decide +kernel
theorem dX9_visit_41 : decode cX9_visit 41 = .ok (.iconst 2, 1) := by decide +kernel
theorem dX9_visit_42 : decode cX9_visit 42 = .ok (.goto 4, 3) := by decide +kernel
theorem dX9_visit_45 : decode cX9_visit 45 = .ok (.iconst 1, 1) := by decide +kernel
theorem dX9_visit_46 : decode cX9_visit 46 = .ok (.istore 6, 2) := by decide +kernel
theorem dX9_visit_48 : decode cX9_visit 48 = .ok (.aload_n 0, 1) := by decide +kernel
theorem dX9_visit_49 : decode cX9_visit 49 = .ok (.iload_n 3, 1) := by decide +kernel
theorem dX9_visit_50 : decode cX9_visit 50 = .ok (.iload 5, 2) := by decide +kernel
theorem dX9_visit_52 : decode cX9_visit 52 = .ok (.iconst 2, 1) := by decide +kernel
theorem dX9_visit_53 : decode cX9_visit 53 = .ok (.if_icmp .ne 7, 3) := by decide +kernel
theorem dX9_visit_56 : decode cX9_visit 56 = .ok (.iconst 1, 1) := by decide +kernel
theorem dX9_visit_57 : decode cX9_visit 57 = .ok (.goto 4, 3) := by decide +kernel
theorem dX9_visit_60 : decode cX9_visit 60 = .ok (.iconst 0, 1) := by decide +kernel
theorem dX9_visit_61 : decode cX9_visit 61 = .ok (.invokevirtual 137, 3) := by decide +kernel
theorem dX9_visit_64 : decode cX9_visit 64 = .ok (.istore 7, 2) := by decide +kernel
theorem dX9_visit_66 : decode cX9_visit 66 = .ok (.iload 7, 2) := by decide +kernel
theorem dX9_visit_68 : decode cX9_visit 68 = .ok (.iconst (-1), 1) := by decide +kernel
theorem dX9_visit_69 : decode cX9_visit 69 = .ok (.if_icmp .eq 47, 3) := by decide +kernel
theorem dX9_visit_72 : decode cX9_visit 72 = .ok (.iload 4, 2) := by decide +kernel
theorem dX9_visit_74 : decode cX9_visit 74 = .ok (.iload 6, 2) := by decide +kernel
theorem dX9_visit_76 : decode cX9_visit 76 = .ok (.if_icmp .ge 40, 3) := by decide +kernel
theorem dX9_visit_79 : decode cX9_visit 79 = .ok (.aload_n 0, 1) := by decide +kernel
theorem dX9_visit_80 : decode cX9_visit 80 = .ok (.getfield 28, 3) := by decide +kernel
theorem dX9_visit_83 : decode cX9_visit 83 = .ok (.iload 7, 2) := by decide +kernel
theorem dX9_visit_85 : decode cX9_visit 85 = .ok (.aload_n 0, 1) := by decide +kernel
theorem dX9_visit_86 : decode cX9_visit 86 = .ok (.iload_n 1, 1) := by decide +kernel
theorem dX9_visit_87 : decode cX9_visit 87 = .ok (.iload_n 2, 1) := by decide +kernel
theorem dX9_visit_88 : decode cX9_visit 88 = .ok (.invokevirtual 141, 3) := by decide +kernel
theorem dX9_visit_91 : decode cX9_visit 91 = .ok (.iastore, 1) := by decide +kernel
theorem dX9_visit_92 : decode cX9_visit 92 = .ok (.iinc 4 1, 3) := by decide +kernel
theorem dX9_visit_95 : decode cX9_visit 95 = .ok (.aload_n 0, 1) := by decide +kernel
theorem dX9_visit_96 : decode cX9_visit 96 = .ok (.iload_n 3, 1) := by decide +kernel
theorem dX9_visit_97 : decode cX9_visit 97 = .ok (.iload 5, 2) := by decide +kernel
theorem dX9_visit_99 : decode cX9_visit 99 = .ok (.iconst 2, 1) := by decide +kernel
theorem dX9_visit_100 : decode cX9_visit 100 = .ok (.if_icmp .ne 7, 3) := by decide +kernel
theorem dX9_visit_103 : decode cX9_visit 103 = .ok (.iconst 1, 1) := by decide +kernel
theorem dX9_visit_104 : decode cX9_visit 104 = .ok (.goto 4, 3) := by decide +kernel
theorem dX9_visit_107 : decode cX9_visit 107 = .ok (.iconst 0, 1) := by decide +kernel
theorem dX9_visit_108 : decode cX9_visit 108 = .ok (.invokevirtual 137, 3) := by decide +kernel
theorem dX9_visit_111 : decode cX9_visit 111 = .ok (.istore 7, 2) := by decide +kernel
theorem dX9_visit_113 : decode cX9_visit 113 = .ok (.goto (-47), 3) := by decide +kernel
theorem dX9_visit_116 : decode cX9_visit 116 = .ok (.iload 4, 2) := by decide +kernel
theorem dX9_visit_118 : decode cX9_visit 118 = .ok (.ireturn, 1) := by decide +kernel
theorem dX9_pass_0 : decode cX9_pass 0 = .ok (.iconst 0, 1) := by decide +kernel
theorem dX9_pass_1 : decode cX9_pass 1 = .ok (.istore_n 3, 1) := by decide +kernel
theorem dX9_pass_2 : decode cX9_pass 2 = .ok (.iconst 0, 1) := by decide +kernel
theorem dX9_pass_3 : decode cX9_pass 3 = .ok (.istore 4, 2) := by decide +kernel
theorem dX9_pass_5 : decode cX9_pass 5 = .ok (.iload 4, 2) := by decide +kernel
theorem dX9_pass_7 : decode cX9_pass 7 = .ok (.aload_n 0, 1) := by decide +kernel
theorem dX9_pass_8 : decode cX9_pass 8 = .ok (.getfield 91, 3) := by decide +kernel
theorem dX9_pass_11 : decode cX9_pass 11 = .ok (.if_icmp .ge 33, 3) := by decide +kernel
theorem dX9_pass_14 : decode cX9_pass 14 = .ok (.iload_n 1, 1) := by decide +kernel
theorem dX9_pass_15 : decode cX9_pass 15 = .ok (.iload 4, 2) := by decide +kernel
theorem dX9_pass_17 : decode cX9_pass 17 = .ok (.ishr, 1) := by decide +kernel
theorem dX9_pass_18 : decode cX9_pass 18 = .ok (.iconst 1, 1) := by decide +kernel
theorem dX9_pass_19 : decode cX9_pass 19 = .ok (.iand, 1) := by decide +kernel
theorem dX9_pass_20 : decode cX9_pass 20 = .ok (.iconst 1, 1) := by decide +kernel
theorem dX9_pass_21 : decode cX9_pass 21 = .ok (.if_icmp .ne 17, 3) := by decide +kernel
theorem dX9_pass_24 : decode cX9_pass 24 = .ok (.aload_n 0, 1) := by decide +kernel
theorem dX9_pass_25 : decode cX9_pass 25 = .ok (.iload 4, 2) := by decide +kernel
theorem dX9_pass_27 : decode cX9_pass 27 = .ok (.iload_n 2, 1) := by decide +kernel
theorem dX9_pass_28 : decode cX9_pass 28 = .ok (.invokevirtual 144, 3) := by decide +kernel
theorem dX9_pass_31 : decode cX9_pass 31 = .ok (.istore 5, 2) := by decide +kernel
theorem dX9_pass_33 : decode cX9_pass 33 = .ok (.iload_n 3, 1) := by decide +kernel
theorem dX9_pass_34 : decode cX9_pass 34 = .ok (.iload 5, 2) := by decide +kernel
theorem dX9_pass_36 : decode cX9_pass 36 = .ok (.iadd, 1) := by decide +kernel
theorem dX9_pass_37 : decode cX9_pass 37 = .ok (.istore_n 3, 1) := by decide +kernel
theorem dX9_pass_38 : decode cX9_pass 38 = .ok (.iinc 4 1, 3) := by decide +kernel
theorem dX9_pass_41 : decode cX9_pass 41 = .ok (.goto (-36), 3) := by decide +kernel
theorem dX9_pass_44 : decode cX9_pass 44 = .ok (.iconst 0, 1) := by decide +kernel
theorem dX9_pass_45 : decode cX9_pass 45 = .ok (.istore 4, 2) := by decide +kernel
theorem dX9_pass_47 : decode cX9_pass 47 = .ok (.iload 4, 2) := by decide +kernel
theorem dX9_pass_49 : decode cX9_pass 49 = .ok (.bipush 8, 2) := by decide +kernel
theorem dX9_pass_51 : decode cX9_pass 51 = .ok (.if_icmp .ge 34, 3) := by decide +kernel
theorem dX9_pass_54 : decode cX9_pass 54 = .ok (.aload_n 0, 1) := by decide +kernel
theorem dX9_pass_55 : decode cX9_pass 55 = .ok (.getfield 31, 3) := by decide +kernel
theorem dX9_pass_58 : decode cX9_pass 58 = .ok (.iload 4, 2) := by decide +kernel
theorem dX9_pass_60 : decode cX9_pass 60 = .ok (.dup2, 1) := by decide +kernel
theorem dX9_pass_61 : decode cX9_pass 61 = .ok (.iaload, 1) := by decide +kernel
theorem dX9_pass_62 : decode cX9_pass 62 = .ok (.aload_n 0, 1) := by decide +kernel
theorem dX9_pass_63 : decode cX9_pass 63 = .ok (.getfield 31, 3) := by decide +kernel
theorem dX9_pass_66 : decode cX9_pass 66 = .ok (.iload 4, 2) := by decide +kernel
theorem dX9_pass_68 : decode cX9_pass 68 = .ok (.iaload, 1) := by decide +kernel
theorem dX9_pass_69 : decode cX9_pass 69 = .ok (.ifCond .le 7, 3) := by decide +kernel
theorem dX9_pass_72 : decode cX9_pass 72 = .ok (.iconst 1, 1) := by decide +kernel
theorem dX9_pass_73 : decode cX9_pass 73 = .ok (.goto 4, 3) := by decide +kernel
theorem dX9_pass_76 : decode cX9_pass 76 = .ok (.iconst 0, 1) := by decide +kernel
theorem dX9_pass_77 : decode cX9_pass 77 = .ok (.isub, 1) := by decide +kernel
theorem dX9_pass_78 : decode cX9_pass 78 = .ok (.iastore, 1) := by decide +kernel
theorem dX9_pass_79 : decode cX9_pass 79 = .ok (.iinc 4 1, 3) := by decide +kernel
theorem dX9_pass_82 : decode cX9_pass 82 = .ok (.goto (-35), 3) := by decide +kernel
theorem dX9_pass_85 : decode cX9_pass 85 = .ok (.iload_n 3, 1) := by decide +kernel
theorem dX9_pass_86 : decode cX9_pass 86 = .ok (.ireturn, 1) := by decide +kernel
theorem dX9_month_0 : decode cX9_month 0 = .ok (.aload_n 0, 1) := by decide +kernel
theorem dX9_month_1 : decode cX9_month 1 = .ok (.invokevirtual 147, 3) := by decide +kernel
theorem dX9_month_4 : decode cX9_month 4 = .ok (.ifCond .eq 6, 3) := by decide +kernel
theorem dX9_month_7 : decode cX9_month 7 = .ok (.bipush (-103), 2) := by decide +kernel
theorem dX9_month_9 : decode cX9_month 9 = .ok (.ireturn, 1) := by decide +kernel
theorem dX9_month_10 : decode cX9_month 10 = .ok (.aload_n 0, 1) := by decide +kernel
theorem dX9_month_11 : decode cX9_month 11 = .ok (.invokevirtual 151, 3) := by decide +kernel
theorem dX9_month_14 : decode cX9_month 14 = .ok (.aload_n 0, 1) := by decide +kernel
theorem dX9_month_15 : decode cX9_month 15 = .ok (.sipush 255, 3) := by decide +kernel
theorem dX9_month_18 : decode cX9_month 18 = .ok (.aload_n 0, 1) := by decide +kernel
end
section
theorem dX9_month_19 : decode cX9_month 19 = .ok (.getfield 94, 3) := by decide +kernel
theorem dX9_month_22 : decode cX9_month 22 = .ok (.invokevirtual 154, 3) := by decide +kernel
theorem dX9_month_25 : decode cX9_month 25 = .ok (.istore_n 1, 1) := by decide +kernel
theorem dX9_month_26 : decode cX9_month 26 = .ok (.iconst 0, 1) := by decide +kernel
theorem dX9_month_27 : decode cX9_month 27 = .ok (.istore_n 2, 1) := by decide +kernel
theorem dX9_month_28 : decode cX9_month 28 = .ok (.iload_n 2, 1) := by decide +kernel
theorem dX9_month_29 : decode cX9_month 29 = .ok (.aload_n 0, 1) := by decide +kernel
theorem dX9_month_30 : decode cX9_month 30 = .ok (.getfield 113, 3) := by decide +kernel
theorem dX9_month_33 : decode cX9_month 33 = .ok (.if_icmp .ge 25, 3) := by decide +kernel
theorem dX9_month_36 : decode cX9_month 36 = .ok (.aload_n 0, 1) := by decide +kernel
theorem dX9_month_37 : decode cX9_month 37 = .ok (.getfield 25, 3) := by decide +kernel
theorem dX9_month_40 : decode cX9_month 40 = .ok (.iconst 4, 1) := by decide +kernel
theorem dX9_month_41 : decode cX9_month 41 = .ok (.iload_n 2, 1) := by decide +kernel
theorem dX9_month_42 : decode cX9_month 42 = .ok (.imul, 1) := by decide +kernel
theorem dX9_month_43 : decode cX9_month 43 = .ok (.iconst 2, 1) := by decide +kernel
theorem dX9_month_44 : decode cX9_month 44 = .ok (.iadd, 1) := by decide +kernel
theorem dX9_month_45 : decode cX9_month 45 = .ok (.aload_n 0, 1) := by decide +kernel
theorem dX9_month_46 : decode cX9_month 46 = .ok (.getfield 28, 3) := by decide +kernel
theorem dX9_month_49 : decode cX9_month 49 = .ok (.iload_n 2, 1) := by decide +kernel
theorem dX9_month_50 : decode cX9_month 50 = .ok (.iaload, 1) := by decide +kernel
theorem dX9_month_51 : decode cX9_month 51 = .ok (.iastore, 1) := by decide +kernel
theorem dX9_month_52 : decode cX9_month 52 = .ok (.iinc 2 1, 3) := by decide +kernel
theorem dX9_month_55 : decode cX9_month 55 = .ok (.goto (-27), 3) := by decide +kernel
theorem dX9_month_58 : decode cX9_month 58 = .ok (.iconst 0, 1) := by decide +kernel
theorem dX9_month_59 : decode cX9_month 59 = .ok (.istore_n 2, 1) := by decide +kernel
theorem dX9_month_60 : decode cX9_month 60 = .ok (.iload_n 2, 1) := by decide +kernel
theorem dX9_month_61 : decode cX9_month 61 = .ok (.bipush 8, 2) := by decide +kernel
theorem dX9_month_63 : decode cX9_month 63 = .ok (.if_icmp .ge 21, 3) := by decide +kernel
theorem dX9_month_66 : decode cX9_month 66 = .ok (.aload_n 0, 1) := by decide +kernel
theorem dX9_month_67 : decode cX9_month 67 = .ok (.getfield 22, 3) := by decide +kernel
theorem dX9_month_70 : decode cX9_month 70 = .ok (.iload_n 2, 1) := by decide +kernel
theorem dX9_month_71 : decode cX9_month 71 = .ok (.aload_n 0, 1) := by decide +kernel
theorem dX9_month_72 : decode cX9_month 72 = .ok (.getfield 31, 3) := by decide +kernel
theorem dX9_month_75 : decode cX9_month 75 = .ok (.iload_n 2, 1) := by decide +kernel
theorem dX9_month_76 : decode cX9_month 76 = .ok (.iaload, 1) := by decide +kernel
theorem dX9_month_77 : decode cX9_month 77 = .ok (.iastore, 1) := by decide +kernel
theorem dX9_month_78 : decode cX9_month 78 = .ok (.iinc 2 1, 3) := by decide +kernel
theorem dX9_month_81 : decode cX9_month 81 = .ok (.goto (-21), 3) := by decide +kernel
theorem dX9_month_84 : decode cX9_month 84 = .ok (.aload_n 0, 1) := by decide +kernel
theorem dX9_month_85 : decode cX9_month 85 = .ok (.dup, 1) := by decide +kernel
theorem dX9_month_86 : decode cX9_month 86 = .ok (.getfield 157, 3) := by decide +kernel
theorem dX9_month_89 : decode cX9_month 89 = .ok (.iconst 1, 1) := by decide +kernel
theorem dX9_month_90 : decode cX9_month 90 = .ok (.iadd, 1) := by decide +kernel
theorem dX9_month_91 : decode cX9_month 91 = .ok (.putfield 157, 3) := by decide +kernel
theorem dX9_month_94 : decode cX9_month 94 = .ok (.iconst 0, 1) := by decide +kernel
theorem dX9_month_95 : decode cX9_month 95 = .ok (.istore_n 2, 1) := by decide +kernel
theorem dX9_month_96 : decode cX9_month 96 = .ok (.iload_n 2, 1) := by decide +kernel
theorem dX9_month_97 : decode cX9_month 97 = .ok (.aload_n 0, 1) := by decide +kernel
theorem dX9_month_98 : decode cX9_month 98 = .ok (.getfield 91, 3) := by decide +kernel
theorem dX9_month_101 : decode cX9_month 101 = .ok (.if_icmp .ge 44, 3) := by decide +kernel
theorem dX9_month_104 : decode cX9_month 104 = .ok (.aload_n 0, 1) := by decide +kernel
theorem dX9_month_105 : decode cX9_month 105 = .ok (.dup, 1) := by decide +kernel
theorem dX9_month_106 : decode cX9_month 106 = .ok (.getfield 160, 3) := by decide +kernel
theorem dX9_month_109 : decode cX9_month 109 = .ok (.aload_n 0, 1) := by decide +kernel
theorem dX9_month_110 : decode cX9_month 110 = .ok (.getfield 94, 3) := by decide +kernel
theorem dX9_month_113 : decode cX9_month 113 = .ok (.iload_n 2, 1) := by decide +kernel
theorem dX9_month_114 : decode cX9_month 114 = .ok (.ishr, 1) := by decide +kernel
theorem dX9_month_115 : decode cX9_month 115 = .ok (.iconst 1, 1) := by decide +kernel
theorem dX9_month_116 : decode cX9_month 116 = .ok (.iand, 1) := by decide +kernel
theorem dX9_month_117 : decode cX9_month 117 = .ok (.iconst 1, 1) := by decide +kernel
theorem dX9_month_118 : decode cX9_month 118 = .ok (.if_icmp .ne 16, 3) := by decide +kernel
theorem dX9_month_121 : decode cX9_month 121 = .ok (.aload_n 0, 1) := by decide +kernel
theorem dX9_month_122 : decode cX9_month 122 = .ok (.getfield 16, 3) := by decide +kernel
theorem dX9_month_125 : decode cX9_month 125 = .ok (.iconst 4, 1) := by decide +kernel
theorem dX9_month_126 : decode cX9_month 126 = .ok (.iload_n 2, 1) := by decide +kernel
theorem dX9_month_127 : decode cX9_month 127 = .ok (.imul, 1) := by decide +kernel
theorem dX9_month_128 : decode cX9_month 128 = .ok (.iconst 3, 1) := by decide +kernel
theorem dX9_month_129 : decode cX9_month 129 = .ok (.iadd, 1) := by decide +kernel
theorem dX9_month_130 : decode cX9_month 130 = .ok (.iaload, 1) := by decide +kernel
theorem dX9_month_131 : decode cX9_month 131 = .ok (.goto 4, 3) := by decide +kernel
theorem dX9_month_134 : decode cX9_month 134 = .ok (.iconst 0, 1) := by decide +kernel
theorem dX9_month_135 : decode cX9_month 135 = .ok (.iadd, 1) := by decide +kernel
theorem dX9_month_136 : decode cX9_month 136 = .ok (.putfield 160, 3) := by decide +kernel
theorem dX9_month_139 : decode cX9_month 139 = .ok (.iinc 2 1, 3) := by decide +kernel
theorem dX9_month_142 : decode cX9_month 142 = .ok (.goto (-46), 3) := by decide +kernel
theorem dX9_month_145 : decode cX9_month 145 = .ok (.iload_n 1, 1) := by decide +kernel
theorem dX9_month_146 : decode cX9_month 146 = .ok (.ireturn, 1) := by decide +kernel
theorem dX9_where_0 : decode cX9_where 0 = .ok (.aload_n 0, 1) := by decide +kernel
theorem dX9_where_1 : decode cX9_where 1 = .ok (.iload_n 1, 1) := by decide +kernel
theorem dX9_where_2 : decode cX9_where 2 = .ok (.invokevirtual 124, 3) := by decide +kernel
theorem dX9_where_5 : decode cX9_where 5 = .ok (.ifCond .ne 6, 3) := by decide +kernel
theorem dX9_where_8 : decode cX9_where 8 = .ok (.bipush (-101), 2) := by decide +kernel
theorem dX9_where_10 : decode cX9_where 10 = .ok (.ireturn, 1) := by decide +kernel
theorem dX9_where_11 : decode cX9_where 11 = .ok (.iload_n 2, 1) := by decide +kernel
theorem dX9_where_12 : decode cX9_where 12 = .ok (.i2l, 1) := by decide +kernel
theorem dX9_where_13 : decode cX9_where 13 = .ok (.lconst 0, 1) := by decide +kernel
theorem dX9_where_14 : decode cX9_where 14 = .ok (.ldc2_w 163, 3) := by decide +kernel
theorem dX9_where_17 : decode cX9_where 17 = .ok (.invokestatic 70, 3) := by decide +kernel
theorem dX9_where_20 : decode cX9_where 20 = .ok (.ifCond .ne 6, 3) := by decide +kernel
theorem dX9_where_23 : decode cX9_where 23 = .ok (.bipush (-102), 2) := by decide +kernel
theorem dX9_where_25 : decode cX9_where 25 = .ok (.ireturn, 1) := by decide +kernel
theorem dX9_where_26 : decode cX9_where 26 = .ok (.aload_n 0, 1) := by decide +kernel
theorem dX9_where_27 : decode cX9_where 27 = .ok (.invokevirtual 147, 3) := by decide +kernel
theorem dX9_where_30 : decode cX9_where 30 = .ok (.ifCond .eq 6, 3) := by decide +kernel
theorem dX9_where_33 : decode cX9_where 33 = .ok (.bipush (-103), 2) := by decide +kernel
theorem dX9_where_35 : decode cX9_where 35 = .ok (.ireturn, 1) := by decide +kernel
theorem dX9_where_36 : decode cX9_where 36 = .ok (.aload_n 0, 1) := by decide +kernel
theorem dX9_where_37 : decode cX9_where 37 = .ok (.invokevirtual 151, 3) := by decide +kernel
theorem dX9_where_40 : decode cX9_where 40 = .ok (.iconst 0, 1) := by decide +kernel
theorem dX9_where_41 : decode cX9_where 41 = .ok (.istore_n 3, 1) := by decide +kernel
theorem dX9_where_42 : decode cX9_where 42 = .ok (.iload_n 3, 1) := by decide +kernel
theorem dX9_where_43 : decode cX9_where 43 = .ok (.iload_n 2, 1) := by decide +kernel
theorem dX9_where_44 : decode cX9_where 44 = .ok (.if_icmp .ge 22, 3) := by decide +kernel
theorem dX9_where_47 : decode cX9_where 47 = .ok (.aload_n 0, 1) := by decide +kernel
theorem dX9_where_48 : decode cX9_where 48 = .ok (.sipush 255, 3) := by decide +kernel
theorem dX9_where_51 : decode cX9_where 51 = .ok (.aload_n 0, 1) := by decide +kernel
theorem dX9_where_52 : decode cX9_where 52 = .ok (.getfield 94, 3) := by decide +kernel
theorem dX9_where_55 : decode cX9_where 55 = .ok (.invokevirtual 154, 3) := by decide +kernel
theorem dX9_where_58 : decode cX9_where 58 = .ok (.istore 4, 2) := by decide +kernel
theorem dX9_where_60 : decode cX9_where 60 = .ok (.iinc 3 1, 3) := by decide +kernel
theorem dX9_where_63 : decode cX9_where 63 = .ok (.goto (-21), 3) := by decide +kernel
theorem dX9_where_66 : decode cX9_where 66 = .ok (.aload_n 0, 1) := by decide +kernel
theorem dX9_where_67 : decode cX9_where 67 = .ok (.getfield 28, 3) := by decide +kernel
theorem dX9_where_70 : decode cX9_where 70 = .ok (.iload_n 1, 1) := by decide +kernel
theorem dX9_where_71 : decode cX9_where 71 = .ok (.iaload, 1) := by decide +kernel
theorem dX9_where_72 : decode cX9_where 72 = .ok (.ireturn, 1) := by decide +kernel
theorem dX9_term_0 : decode cX9_term 0 = .ok (.lload_n 0, 1) := by decide +kernel
theorem dX9_term_1 : decode cX9_term 1 = .ok (.lstore 5, 2) := by decide +kernel
theorem dX9_term_3 : decode cX9_term 3 = .ok (.lload_n 2, 1) := by decide +kernel
theorem dX9_term_4 : decode cX9_term 4 = .ok (.lstore 7, 2) := by decide +kernel
theorem dX9_term_6 : decode cX9_term 6 = .ok (.lload 5, 2) := by decide +kernel
theorem dX9_term_8 : decode cX9_term 8 = .ok (.lconst 0, 1) := by decide +kernel
theorem dX9_term_9 : decode cX9_term 9 = .ok (.lcmp, 1) := by decide +kernel
theorem dX9_term_10 : decode cX9_term 10 = .ok (.ifCond .eq 21, 3) := by decide +kernel
theorem dX9_term_13 : decode cX9_term 13 = .ok (.lload 7, 2) := by decide +kernel
theorem dX9_term_15 : decode cX9_term 15 = .ok (.lload 5, 2) := by decide +kernel
theorem dX9_term_17 : decode cX9_term 17 = .ok (.lrem, 1) := by decide +kernel
theorem dX9_term_18 : decode cX9_term 18 = .ok (.lstore 9, 2) := by decide +kernel
theorem dX9_term_20 : decode cX9_term 20 = .ok (.lload 5, 2) := by decide +kernel
theorem dX9_term_22 : decode cX9_term 22 = .ok (.lstore 7, 2) := by decide +kernel
theorem dX9_term_24 : decode cX9_term 24 = .ok (.lload 9, 2) := by decide +kernel
theorem dX9_term_26 : decode cX9_term 26 = .ok (.lstore 5, 2) := by decide +kernel
theorem dX9_term_28 : decode cX9_term 28 = .ok (.goto (-22), 3) := by decide +kernel
theorem dX9_term_31 : decode cX9_term 31 = .ok (.iload 4, 2) := by decide +kernel
theorem dX9_term_33 : decode cX9_term 33 = .ok (.ifCond .ne 10, 3) := by decide +kernel
theorem dX9_term_36 : decode cX9_term 36 = .ok (.lload_n 0, 1) := by decide +kernel
theorem dX9_term_37 : decode cX9_term 37 = .ok (.lload 7, 2) := by decide +kernel
theorem dX9_term_39 : decode cX9_term 39 = .ok (.ldiv, 1) := by decide +kernel
theorem dX9_term_40 : decode cX9_term 40 = .ok (.goto 7, 3) := by decide +kernel
theorem dX9_term_43 : decode cX9_term 43 = .ok (.lload_n 2, 1) := by decide +kernel
theorem dX9_term_44 : decode cX9_term 44 = .ok (.lload 7, 2) := by decide +kernel
theorem dX9_term_46 : decode cX9_term 46 = .ok (.ldiv, 1) := by decide +kernel
theorem dX9_term_47 : decode cX9_term 47 = .ok (.lreturn, 1) := by decide +kernel
theorem dX9_chance_0 : decode cX9_chance 0 = .ok (.aload_n 0, 1) := by decide +kernel
theorem dX9_chance_1 : decode cX9_chance 1 = .ok (.iload_n 1, 1) := by decide +kernel
theorem dX9_chance_2 : decode cX9_chance 2 = .ok (.invokevirtual 124, 3) := by decide +kernel
theorem dX9_chance_5 : decode cX9_chance 5 = .ok (.ifCond .eq 10, 3) := by decide +kernel
theorem dX9_chance_8 : decode cX9_chance 8 = .ok (.iload_n 3, 1) := by decide +kernel
theorem dX9_chance_9 : decode cX9_chance 9 = .ok (.invokestatic 116, 3) := by decide +kernel
theorem dX9_chance_12 : decode cX9_chance 12 = .ok (.ifCond .ne 7, 3) := by decide +kernel
theorem dX9_chance_15 : decode cX9_chance 15 = .ok (.ldc2_w 165, 3) := by decide +kernel
theorem dX9_chance_18 : decode cX9_chance 18 = .ok (.lreturn, 1) := by decide +kernel
theorem dX9_chance_19 : decode cX9_chance 19 = .ok (.iload_n 2, 1) := by decide +kernel
theorem dX9_chance_20 : decode cX9_chance 20 = .ok (.i2l, 1) := by decide +kernel
theorem dX9_chance_21 : decode cX9_chance 21 = .ok (.lconst 1, 1) := by decide +kernel
theorem dX9_chance_22 : decode cX9_chance 22 = .ok (.ldc2_w 167, 3) := by decide +kernel
theorem dX9_chance_25 : decode cX9_chance 25 = .ok (.invokestatic 70, 3) := by decide +kernel
theorem dX9_chance_28 : decode cX9_chance 28 = .ok (.ifCond .eq 14, 3) := by decide +kernel
theorem dX9_chance_31 : decode cX9_chance 31 = .ok (.iload 4, 2) := by decide +kernel
theorem dX9_chance_33 : decode cX9_chance 33 = .ok (.i2l, 1) := by decide +kernel
theorem dX9_chance_34 : decode cX9_chance 34 = .ok (.lconst 0, 1) := by decide +kernel
theorem dX9_chance_35 : decode cX9_chance 35 = .ok (.lconst 1, 1) := by decide +kernel
theorem dX9_chance_36 : decode cX9_chance 36 = .ok (.invokestatic 70, 3) := by decide +kernel
theorem dX9_chance_39 : decode cX9_chance 39 = .ok (.ifCond .ne 7, 3) := by decide +kernel
theorem dX9_chance_42 : decode cX9_chance 42 = .ok (.ldc2_w 169, 3) := by decide +kernel
theorem dX9_chance_45 : decode cX9_chance 45 = .ok (.lreturn, 1) := by decide +kernel
theorem dX9_chance_46 : decode cX9_chance 46 = .ok (.aload_n 0, 1) := by decide +kernel
theorem dX9_chance_47 : decode cX9_chance 47 = .ok (.invokevirtual 147, 3) := by decide +kernel
theorem dX9_chance_50 : decode cX9_chance 50 = .ok (.ifCond .eq 7, 3) := by decide +kernel
theorem dX9_chance_53 : decode cX9_chance 53 = .ok (.ldc2_w 171, 3) := by decide +kernel
theorem dX9_chance_56 : decode cX9_chance 56 = .ok (.lreturn, 1) := by decide +kernel
theorem dX9_chance_57 : decode cX9_chance 57 = .ok (.aload_n 0, 1) := by decide +kernel
theorem dX9_chance_58 : decode cX9_chance 58 = .ok (.invokevirtual 151, 3) := by decide +kernel
theorem dX9_chance_61 : decode cX9_chance 61 = .ok (.iconst 0, 1) := by decide +kernel
theorem dX9_chance_62 : decode cX9_chance 62 = .ok (.istore 5, 2) := by decide +kernel
theorem dX9_chance_64 : decode cX9_chance 64 = .ok (.iload 5, 2) := by decide +kernel
theorem dX9_chance_66 : decode cX9_chance 66 = .ok (.bipush 8, 2) := by decide +kernel
theorem dX9_chance_68 : decode cX9_chance 68 = .ok (.if_icmp .ge 32, 3) := by decide +kernel
theorem dX9_chance_71 : decode cX9_chance 71 = .ok (.aload_n 0, 1) := by decide +kernel
theorem dX9_chance_72 : decode cX9_chance 72 = .ok (.getfield 34, 3) := by decide +kernel
theorem dX9_chance_75 : decode cX9_chance 75 = .ok (.iload 5, 2) := by decide +kernel
theorem dX9_chance_77 : decode cX9_chance 77 = .ok (.iload 5, 2) := by decide +kernel
theorem dX9_chance_79 : decode cX9_chance 79 = .ok (.aload_n 0, 1) := by decide +kernel
theorem dX9_chance_80 : decode cX9_chance 80 = .ok (.getfield 28, 3) := by decide +kernel
theorem dX9_chance_83 : decode cX9_chance 83 = .ok (.iload_n 1, 1) := by decide +kernel
theorem dX9_chance_84 : decode cX9_chance 84 = .ok (.iaload, 1) := by decide +kernel
theorem dX9_chance_85 : decode cX9_chance 85 = .ok (.if_icmp .ne 7, 3) := by decide +kernel
theorem dX9_chance_88 : decode cX9_chance 88 = .ok (.lconst 1, 1) := by decide +kernel
theorem dX9_chance_89 : decode cX9_chance 89 = .ok (.goto 4, 3) := by decide +kernel
theorem dX9_chance_92 : decode cX9_chance 92 = .ok (.lconst 0, 1) := by decide +kernel
theorem dX9_chance_93 : decode cX9_chance 93 = .ok (.lastore, 1) := by decide +kernel
theorem dX9_chance_94 : decode cX9_chance 94 = .ok (.iinc 5 1, 3) := by decide +kernel
theorem dX9_chance_97 : decode cX9_chance 97 = .ok (.goto (-33), 3) := by decide +kernel
theorem dX9_chance_100 : decode cX9_chance 100 = .ok (.lconst 1, 1) := by decide +kernel
theorem dX9_chance_101 : decode cX9_chance 101 = .ok (.lstore 5, 2) := by decide +kernel
theorem dX9_chance_103 : decode cX9_chance 103 = .ok (.iconst 0, 1) := by decide +kernel
theorem dX9_chance_104 : decode cX9_chance 104 = .ok (.istore 7, 2) := by decide +kernel
theorem dX9_chance_106 : decode cX9_chance 106 = .ok (.iload 7, 2) := by decide +kernel
theorem dX9_chance_108 : decode cX9_chance 108 = .ok (.iload_n 2, 1) := by decide +kernel
theorem dX9_chance_109 : decode cX9_chance 109 = .ok (.if_icmp .ge 182, 3) := by decide +kernel
theorem dX9_chance_112 : decode cX9_chance 112 = .ok (.iconst 0, 1) := by decide +kernel
theorem dX9_chance_113 : decode cX9_chance 113 = .ok (.istore 8, 2) := by decide +kernel
theorem dX9_chance_115 : decode cX9_chance 115 = .ok (.iload 8, 2) := by decide +kernel
theorem dX9_chance_117 : decode cX9_chance 117 = .ok (.aload_n 0, 1) := by decide +kernel
theorem dX9_chance_118 : decode cX9_chance 118 = .ok (.getfield 91, 3) := by decide +kernel
theorem dX9_chance_121 : decode cX9_chance 121 = .ok (.if_icmp .ge 123, 3) := by decide +kernel
theorem dX9_chance_124 : decode cX9_chance 124 = .ok (.aload_n 0, 1) := by decide +kernel
theorem dX9_chance_125 : decode cX9_chance 125 = .ok (.iload 8, 2) := by decide +kernel
theorem dX9_chance_127 : decode cX9_chance 127 = .ok (.aload_n 0, 1) := by decide +kernel
theorem dX9_chance_128 : decode cX9_chance 128 = .ok (.getfield 94, 3) := by decide +kernel
theorem dX9_chance_131 : decode cX9_chance 131 = .ok (.invokevirtual 130, 3) := by decide +kernel
theorem dX9_chance_134 : decode cX9_chance 134 = .ok (.istore 9, 2) := by decide +kernel
theorem dX9_chance_136 : decode cX9_chance 136 = .ok (.aload_n 0, 1) := by decide +kernel
theorem dX9_chance_137 : decode cX9_chance 137 = .ok (.iload 8, 2) := by decide +kernel
theorem dX9_chance_139 : decode cX9_chance 139 = .ok (.iload 9, 2) := by decide +kernel
theorem dX9_chance_141 : decode cX9_chance 141 = .ok (.invokevirtual 133, 3) := by decide +kernel
theorem dX9_chance_144 : decode cX9_chance 144 = .ok (.ifCond .eq 22, 3) := by decide +kernel
theorem dX9_chance_147 : decode cX9_chance 147 = .ok (.aload_n 0, 1) := by decide +kernel
theorem dX9_chance_148 : decode cX9_chance 148 = .ok (.getfield 34, 3) := by decide +kernel
theorem dX9_chance_151 : decode cX9_chance 151 = .ok (.iload 9, 2) := by decide +kernel
theorem dX9_chance_153 : decode cX9_chance 153 = .ok (.laload, 1) := by decide +kernel
theorem dX9_chance_154 : decode cX9_chance 154 = .ok (.aload_n 0, 1) := by decide +kernel
theorem dX9_chance_155 : decode cX9_chance 155 = .ok (.getfield 19, 3) := by decide +kernel
theorem dX9_chance_158 : decode cX9_chance 158 = .ok (.iload 8, 2) := by decide +kernel
theorem dX9_chance_160 : decode cX9_chance 160 = .ok (.iaload, 1) := by decide +kernel
theorem dX9_chance_161 : decode cX9_chance 161 = .ok (.i2l, 1) := by decide +kernel
theorem dX9_chance_162 : decode cX9_chance 162 = .ok (.lmul, 1) := by decide +kernel
theorem dX9_chance_163 : decode cX9_chance 163 = .ok (.goto 4, 3) := by decide +kernel
theorem dX9_chance_166 : decode cX9_chance 166 = .ok (.lconst 0, 1) := by decide +kernel
theorem dX9_chance_167 : decode cX9_chance 167 = .ok (.lstore 10, 2) := by decide +kernel
theorem dX9_chance_169 : decode cX9_chance 169 = .ok (.iconst 0, 1) := by decide +kernel
theorem dX9_chance_170 : decode cX9_chance 170 = .ok (.istore 12, 2) := by decide +kernel
theorem dX9_chance_172 : decode cX9_chance 172 = .ok (.iload 12, 2) := by decide +kernel
theorem dX9_chance_174 : decode cX9_chance 174 = .ok (.bipush 8, 2) := by decide +kernel
theorem dX9_chance_176 : decode cX9_chance 176 = .ok (.if_icmp .ge 22, 3) := by decide +kernel
theorem dX9_chance_179 : decode cX9_chance 179 = .ok (.aload_n 0, 1) := by decide +kernel
theorem dX9_chance_180 : decode cX9_chance 180 = .ok (.getfield 34, 3) := by decide +kernel
theorem dX9_chance_183 : decode cX9_chance 183 = .ok (.iload 12, 2) := by decide +kernel
theorem dX9_chance_185 : decode cX9_chance 185 = .ok (.dup2, 1) := by decide +kernel
theorem dX9_chance_186 : decode cX9_chance 186 = .ok (.laload, 1) := by decide +kernel
theorem dX9_chance_187 : decode cX9_chance 187 = .ok (.ldc2_w 111, 3) := by decide +kernel
theorem dX9_chance_190 : decode cX9_chance 190 = .ok (.lmul, 1) := by decide +kernel
theorem dX9_chance_191 : decode cX9_chance 191 = .ok (.lastore, 1) := by decide +kernel
theorem dX9_chance_192 : decode cX9_chance 192 = .ok (.iinc 12 1, 3) := by decide +kernel
theorem dX9_chance_195 : decode cX9_chance 195 = .ok (.goto (-23), 3) := by decide +kernel
theorem dX9_chance_198 : decode cX9_chance 198 = .ok (.aload_n 0, 1) := by decide +kernel
theorem dX9_chance_199 : decode cX9_chance 199 = .ok (.getfield 34, 3) := by decide +kernel
theorem dX9_chance_202 : decode cX9_chance 202 = .ok (.iload 9, 2) := by decide +kernel
theorem dX9_chance_204 : decode cX9_chance 204 = .ok (.dup2, 1) := by decide +kernel
theorem dX9_chance_205 : decode cX9_chance 205 = .ok (.laload, 1) := by decide +kernel
theorem dX9_chance_206 : decode cX9_chance 206 = .ok (.lload 10, 2) := by decide +kernel
theorem dX9_chance_208 : decode cX9_chance 208 = .ok (.lsub, 1) := by decide +kernel
theorem dX9_chance_209 : decode cX9_chance 209 = .ok (.lastore, 1) := by decide +kernel
theorem dX9_chance_210 : decode cX9_chance 210 = .ok (.aload_n 0, 1) := by decide +kernel
theorem dX9_chance_211 : decode cX9_chance 211 = .ok (.getfield 34, 3) := by decide +kernel
theorem dX9_chance_214 : decode cX9_chance 214 = .ok (.aload_n 0, 1) := by decide +kernel
theorem dX9_chance_215 : decode cX9_chance 215 = .ok (.iload 8, 2) := by decide +kernel
theorem dX9_chance_217 : decode cX9_chance 217 = .ok (.aload_n 0, 1) := by decide +kernel
theorem dX9_chance_218 : decode cX9_chance 218 = .ok (.getfield 94, 3) := by decide +kernel
theorem dX9_chance_221 : decode cX9_chance 221 = .ok (.invokevirtual 141, 3) := by decide +kernel
theorem dX9_chance_224 : decode cX9_chance 224 = .ok (.dup2, 1) := by decide +kernel
theorem dX9_chance_225 : decode cX9_chance 225 = .ok (.laload, 1) := by decide +kernel
theorem dX9_chance_226 : decode cX9_chance 226 = .ok (.lload 10, 2) := by decide +kernel
theorem dX9_chance_228 : decode cX9_chance 228 = .ok (.ladd, 1) := by decide +kernel
theorem dX9_chance_229 : decode cX9_chance 229 = .ok (.lastore, 1) := by decide +kernel
theorem dX9_chance_230 : decode cX9_chance 230 = .ok (.lload 5, 2) := by decide +kernel
theorem dX9_chance_232 : decode cX9_chance 232 = .ok (.ldc2_w 111, 3) := by decide +kernel
theorem dX9_chance_235 : decode cX9_chance 235 = .ok (.lmul, 1) := by decide +kernel
theorem dX9_chance_236 : decode cX9_chance 236 = .ok (.lstore 5, 2) := by decide +kernel
theorem dX9_chance_238 : decode cX9_chance 238 = .ok (.iinc 8 1, 3) := by decide +kernel
theorem dX9_chance_241 : decode cX9_chance 241 = .ok (.goto (-126), 3) := by decide +kernel
theorem dX9_chance_244 : decode cX9_chance 244 = .ok (.iconst 0, 1) := by decide +kernel
theorem dX9_chance_245 : decode cX9_chance 245 = .ok (.istore 8, 2) := by decide +kernel
theorem dX9_chance_247 : decode cX9_chance 247 = .ok (.iload 8, 2) := by decide +kernel
theorem dX9_chance_249 : decode cX9_chance 249 = .ok (.bipush 8, 2) := by decide +kernel
theorem dX9_chance_251 : decode cX9_chance 251 = .ok (.if_icmp .ge 34, 3) := by decide +kernel
theorem dX9_chance_254 : decode cX9_chance 254 = .ok (.aload_n 0, 1) := by decide +kernel
theorem dX9_chance_255 : decode cX9_chance 255 = .ok (.getfield 31, 3) := by decide +kernel
theorem dX9_chance_258 : decode cX9_chance 258 = .ok (.iload 8, 2) := by decide +kernel
theorem dX9_chance_260 : decode cX9_chance 260 = .ok (.dup2, 1) := by decide +kernel
theorem dX9_chance_261 : decode cX9_chance 261 = .ok (.iaload, 1) := by decide +kernel
theorem dX9_chance_262 : decode cX9_chance 262 = .ok (.aload_n 0, 1) := by decide +kernel
theorem dX9_chance_263 : decode cX9_chance 263 = .ok (.getfield 31, 3) := by decide +kernel
theorem dX9_chance_266 : decode cX9_chance 266 = .ok (.iload 8, 2) := by decide +kernel
theorem dX9_chance_268 : decode cX9_chance 268 = .ok (.iaload, 1) := by decide +kernel
theorem dX9_chance_269 : decode cX9_chance 269 = .ok (.ifCond .le 7, 3) := by decide +kernel
theorem dX9_chance_272 : decode cX9_chance 272 = .ok (.iconst 1, 1) := by decide +kernel
theorem dX9_chance_273 : decode cX9_chance 273 = .ok (.goto 4, 3) := by decide +kernel
theorem dX9_chance_276 : decode cX9_chance 276 = .ok (.iconst 0, 1) := by decide +kernel
theorem dX9_chance_277 : decode cX9_chance 277 = .ok (.isub, 1) := by decide +kernel
theorem dX9_chance_278 : decode cX9_chance 278 = .ok (.iastore, 1) := by decide +kernel
theorem dX9_chance_279 : decode cX9_chance 279 = .ok (.iinc 8 1, 3) := by decide +kernel
theorem dX9_chance_282 : decode cX9_chance 282 = .ok (.goto (-35), 3) := by decide +kernel
theorem dX9_chance_285 : decode cX9_chance 285 = .ok (.iinc 7 1, 3) := by decide +kernel
theorem dX9_chance_288 : decode cX9_chance 288 = .ok (.goto (-182), 3) := by decide +kernel
theorem dX9_chance_291 : decode cX9_chance 291 = .ok (.aload_n 0, 1) := by decide +kernel
theorem dX9_chance_292 : decode cX9_chance 292 = .ok (.getfield 34, 3) := by decide +kernel
theorem dX9_chance_295 : decode cX9_chance 295 = .ok (.iload_n 3, 1) := by decide +kernel
theorem dX9_chance_296 : decode cX9_chance 296 = .ok (.laload, 1) := by decide +kernel
theorem dX9_chance_297 : decode cX9_chance 297 = .ok (.lload 5, 2) := by decide +kernel
theorem dX9_chance_299 : decode cX9_chance 299 = .ok (.iload 4, 2) := by decide +kernel
theorem dX9_chance_301 : decode cX9_chance 301 = .ok (.invokestatic 173, 3) := by decide +kernel
theorem dX9_chance_304 : decode cX9_chance 304 = .ok (.lreturn, 1) := by decide +kernel
theorem dX9_ones_0 : decode cX9_ones 0 = .ok (.iconst 0, 1) := by decide +kernel
theorem dX9_ones_1 : decode cX9_ones 1 = .ok (.istore_n 1, 1) := by decide +kernel
theorem dX9_ones_2 : decode cX9_ones 2 = .ok (.iconst 0, 1) := by decide +kernel
theorem dX9_ones_3 : decode cX9_ones 3 = .ok (.istore_n 2, 1) := by decide +kernel
theorem dX9_ones_4 : decode cX9_ones 4 = .ok (.iload_n 2, 1) := by decide +kernel
theorem dX9_ones_5 : decode cX9_ones 5 = .ok (.bipush 8, 2) := by decide +kernel
theorem dX9_ones_7 : decode cX9_ones 7 = .ok (.if_icmp .ge 17, 3) := by decide +kernel
theorem dX9_ones_10 : decode cX9_ones 10 = .ok (.iload_n 1, 1) := by decide +kernel
theorem dX9_ones_11 : decode cX9_ones 11 = .ok (.iload_n 0, 1) := by decide +kernel
theorem dX9_ones_12 : decode cX9_ones 12 = .ok (.iload_n 2, 1) := by decide +kernel
theorem dX9_ones_13 : decode cX9_ones 13 = .ok (.ishr, 1) := by decide +kernel
theorem dX9_ones_14 : decode cX9_ones 14 = .ok (.iconst 1, 1) := by decide +kernel
theorem dX9_ones_15 : decode cX9_ones 15 = .ok (.iand, 1) := by decide +kernel
theorem dX9_ones_16 : decode cX9_ones 16 = .ok (.iadd, 1) := by decide +kernel
theorem dX9_ones_17 : decode cX9_ones 17 = .ok (.istore_n 1, 1) := by decide +kernel
theorem dX9_ones_18 : decode cX9_ones 18 = .ok (.iinc 2 1, 3) := by decide +kernel
theorem dX9_ones_21 : decode cX9_ones 21 = .ok (.goto (-17), 3) := by decide +kernel
theorem dX9_ones_24 : decode cX9_ones 24 = .ok (.iload_n 1, 1) := by decide +kernel
theorem dX9_ones_25 : decode cX9_ones 25 = .ok (.ireturn, 1) := by decide +kernel
theorem dX9_inHouse_0 : decode cX9_inHouse 0 = .ok (.iconst 0, 1) := by decide +kernel
theorem dX9_inHouse_1 : decode cX9_inHouse 1 = .ok (.istore_n 2, 1) := by decide +kernel
theorem dX9_inHouse_2 : decode cX9_inHouse 2 = .ok (.iconst 0, 1) := by decide +kernel
theorem dX9_inHouse_3 : decode cX9_inHouse 3 = .ok (.istore_n 3, 1) := by decide +kernel
theorem dX9_inHouse_4 : decode cX9_inHouse 4 = .ok (.iload_n 3, 1) := by decide +kernel
theorem dX9_inHouse_5 : decode cX9_inHouse 5 = .ok (.aload_n 0, 1) := by decide +kernel
theorem dX9_inHouse_6 : decode cX9_inHouse 6 = .ok (.getfield 113, 3) := by decide +kernel
theorem dX9_inHouse_9 : decode cX9_inHouse 9 = .ok (.if_icmp .ge 34, 3) := by decide +kernel
theorem dX9_inHouse_12 : decode cX9_inHouse 12 = .ok (.iload_n 2, 1) := by decide +kernel
theorem dX9_inHouse_13 : decode cX9_inHouse 13 = .ok (.aload_n 0, 1) := by decide +kernel
theorem dX9_inHouse_14 : decode cX9_inHouse 14 = .ok (.getfield 28, 3) := by decide +kernel
theorem dX9_inHouse_17 : decode cX9_inHouse 17 = .ok (.iload_n 3, 1) := by decide +kernel
theorem dX9_inHouse_18 : decode cX9_inHouse 18 = .ok (.iaload, 1) := by decide +kernel
theorem dX9_inHouse_19 : decode cX9_inHouse 19 = .ok (.iload_n 1, 1) := by decide +kernel
theorem dX9_inHouse_20 : decode cX9_inHouse 20 = .ok (.if_icmp .ne 14, 3) := by decide +kernel
theorem dX9_inHouse_23 : decode cX9_inHouse 23 = .ok (.aload_n 0, 1) := by decide +kernel
theorem dX9_inHouse_24 : decode cX9_inHouse 24 = .ok (.getfield 25, 3) := by decide +kernel
theorem dX9_inHouse_27 : decode cX9_inHouse 27 = .ok (.iconst 4, 1) := by decide +kernel
theorem dX9_inHouse_28 : decode cX9_inHouse 28 = .ok (.iload_n 3, 1) := by decide +kernel
theorem dX9_inHouse_29 : decode cX9_inHouse 29 = .ok (.imul, 1) := by decide +kernel
theorem dX9_inHouse_30 : decode cX9_inHouse 30 = .ok (.iaload, 1) := by decide +kernel
theorem dX9_inHouse_31 : decode cX9_inHouse 31 = .ok (.goto 4, 3) := by decide +kernel
theorem dX9_inHouse_34 : decode cX9_inHouse 34 = .ok (.iconst 0, 1) := by decide +kernel
theorem dX9_inHouse_35 : decode cX9_inHouse 35 = .ok (.iadd, 1) := by decide +kernel
theorem dX9_inHouse_36 : decode cX9_inHouse 36 = .ok (.istore_n 2, 1) := by decide +kernel
theorem dX9_inHouse_37 : decode cX9_inHouse 37 = .ok (.iinc 3 1, 3) := by decide +kernel
theorem dX9_inHouse_40 : decode cX9_inHouse 40 = .ok (.goto (-36), 3) := by decide +kernel
theorem dX9_inHouse_43 : decode cX9_inHouse 43 = .ok (.iload_n 2, 1) := by decide +kernel
theorem dX9_inHouse_44 : decode cX9_inHouse 44 = .ok (.ireturn, 1) := by decide +kernel
theorem dX9_whomOf_0 : decode cX9_whomOf 0 = .ok (.iconst 0, 1) := by decide +kernel
theorem dX9_whomOf_1 : decode cX9_whomOf 1 = .ok (.istore 4, 2) := by decide +kernel
theorem dX9_whomOf_3 : decode cX9_whomOf 3 = .ok (.iconst 0, 1) := by decide +kernel
theorem dX9_whomOf_4 : decode cX9_whomOf 4 = .ok (.istore 5, 2) := by decide +kernel
theorem dX9_whomOf_6 : decode cX9_whomOf 6 = .ok (.iload 5, 2) := by decide +kernel
theorem dX9_whomOf_8 : decode cX9_whomOf 8 = .ok (.aload_n 0, 1) := by decide +kernel
theorem dX9_whomOf_9 : decode cX9_whomOf 9 = .ok (.getfield 91, 3) := by decide +kernel
theorem dX9_whomOf_12 : decode cX9_whomOf 12 = .ok (.if_icmp .ge 37, 3) := by decide +kernel
theorem dX9_whomOf_15 : decode cX9_whomOf 15 = .ok (.iload 4, 2) := by decide +kernel
theorem dX9_whomOf_17 : decode cX9_whomOf 17 = .ok (.aload_n 0, 1) := by decide +kernel
theorem dX9_whomOf_18 : decode cX9_whomOf 18 = .ok (.getfield 16, 3) := by decide +kernel
theorem dX9_whomOf_21 : decode cX9_whomOf 21 = .ok (.iconst 4, 1) := by decide +kernel
theorem dX9_whomOf_22 : decode cX9_whomOf 22 = .ok (.iload 5, 2) := by decide +kernel
theorem dX9_whomOf_24 : decode cX9_whomOf 24 = .ok (.imul, 1) := by decide +kernel
theorem dX9_whomOf_25 : decode cX9_whomOf 25 = .ok (.iconst 1, 1) := by decide +kernel
theorem dX9_whomOf_26 : decode cX9_whomOf 26 = .ok (.iadd, 1) := by decide +kernel
theorem dX9_whomOf_27 : decode cX9_whomOf 27 = .ok (.iaload, 1) := by decide +kernel
theorem dX9_whomOf_28 : decode cX9_whomOf 28 = .ok (.iload_n 1, 1) := by decide +kernel
theorem dX9_whomOf_29 : decode cX9_whomOf 29 = .ok (.if_icmp .ne 10, 3) := by decide +kernel
theorem dX9_whomOf_32 : decode cX9_whomOf 32 = .ok (.iconst 1, 1) := by decide +kernel
theorem dX9_whomOf_33 : decode cX9_whomOf 33 = .ok (.iload 5, 2) := by decide +kernel
theorem dX9_whomOf_35 : decode cX9_whomOf 35 = .ok (.ishl, 1) := by decide +kernel
theorem dX9_whomOf_36 : decode cX9_whomOf 36 = .ok (.goto 4, 3) := by decide +kernel
theorem dX9_whomOf_39 : decode cX9_whomOf 39 = .ok (.iconst 0, 1) := by decide +kernel
theorem dX9_whomOf_40 : decode cX9_whomOf 40 = .ok (.ior, 1) := by decide +kernel
theorem dX9_whomOf_41 : decode cX9_whomOf 41 = .ok (.istore 4, 2) := by decide +kernel
theorem dX9_whomOf_43 : decode cX9_whomOf 43 = .ok (.iinc 5 1, 3) := by decide +kernel
theorem dX9_whomOf_46 : decode cX9_whomOf 46 = .ok (.goto (-40), 3) := by decide +kernel
theorem dX9_whomOf_49 : decode cX9_whomOf 49 = .ok (.iconst 0, 1) := by decide +kernel
theorem dX9_whomOf_50 : decode cX9_whomOf 50 = .ok (.istore 5, 2) := by decide +kernel
theorem dX9_whomOf_52 : decode cX9_whomOf 52 = .ok (.ldc 177, 2) := by decide +kernel
theorem dX9_whomOf_54 : decode cX9_whomOf 54 = .ok (.istore 6, 2) := by decide +kernel
theorem dX9_whomOf_56 : decode cX9_whomOf 56 = .ok (.iconst 0, 1) := by decide +kernel
theorem dX9_whomOf_57 : decode cX9_whomOf 57 = .ok (.istore 7, 2) := by decide +kernel
theorem dX9_whomOf_59 : decode cX9_whomOf 59 = .ok (.iload 7, 2) := by decide +kernel
theorem dX9_whomOf_61 : decode cX9_whomOf 61 = .ok (.iconst 1, 1) := by decide +kernel
theorem dX9_whomOf_62 : decode cX9_whomOf 62 = .ok (.aload_n 0, 1) := by decide +kernel
theorem dX9_whomOf_63 : decode cX9_whomOf 63 = .ok (.getfield 91, 3) := by decide +kernel
theorem dX9_whomOf_66 : decode cX9_whomOf 66 = .ok (.ishl, 1) := by decide +kernel
theorem dX9_whomOf_67 : decode cX9_whomOf 67 = .ok (.if_icmp .ge 185, 3) := by decide +kernel
theorem dX9_whomOf_70 : decode cX9_whomOf 70 = .ok (.iload 7, 2) := by decide +kernel
theorem dX9_whomOf_72 : decode cX9_whomOf 72 = .ok (.iload 4, 2) := by decide +kernel
theorem dX9_whomOf_74 : decode cX9_whomOf 74 = .ok (.iconst (-1), 1) := by decide +kernel
theorem dX9_whomOf_75 : decode cX9_whomOf 75 = .ok (.ixor, 1) := by decide +kernel
theorem dX9_whomOf_76 : decode cX9_whomOf 76 = .ok (.iand, 1) := by decide +kernel
theorem dX9_whomOf_77 : decode cX9_whomOf 77 = .ok (.ifCond .ne 169, 3) := by decide +kernel
theorem dX9_whomOf_80 : decode cX9_whomOf 80 = .ok (.aload_n 0, 1) := by decide +kernel
theorem dX9_whomOf_81 : decode cX9_whomOf 81 = .ok (.invokevirtual 151, 3) := by decide +kernel
theorem dX9_whomOf_84 : decode cX9_whomOf 84 = .ok (.iconst 0, 1) := by decide +kernel
theorem dX9_whomOf_85 : decode cX9_whomOf 85 = .ok (.istore 8, 2) := by decide +kernel
theorem dX9_whomOf_87 : decode cX9_whomOf 87 = .ok (.iconst 0, 1) := by decide +kernel
theorem dX9_whomOf_88 : decode cX9_whomOf 88 = .ok (.istore 9, 2) := by decide +kernel
theorem dX9_whomOf_90 : decode cX9_whomOf 90 = .ok (.iload 9, 2) := by decide +kernel
theorem dX9_whomOf_92 : decode cX9_whomOf 92 = .ok (.aload_n 0, 1) := by decide +kernel
theorem dX9_whomOf_93 : decode cX9_whomOf 93 = .ok (.getfield 91, 3) := by decide +kernel
theorem dX9_whomOf_96 : decode cX9_whomOf 96 = .ok (.if_icmp .ge 42, 3) := by decide +kernel
theorem dX9_whomOf_99 : decode cX9_whomOf 99 = .ok (.iload 8, 2) := by decide +kernel
theorem dX9_whomOf_101 : decode cX9_whomOf 101 = .ok (.iload 7, 2) := by decide +kernel
theorem dX9_whomOf_103 : decode cX9_whomOf 103 = .ok (.iload 9, 2) := by decide +kernel
theorem dX9_whomOf_105 : decode cX9_whomOf 105 = .ok (.ishr, 1) := by decide +kernel
theorem dX9_whomOf_106 : decode cX9_whomOf 106 = .ok (.iconst 1, 1) := by decide +kernel
theorem dX9_whomOf_107 : decode cX9_whomOf 107 = .ok (.iand, 1) := by decide +kernel
theorem dX9_whomOf_108 : decode cX9_whomOf 108 = .ok (.iconst 1, 1) := by decide +kernel
theorem dX9_whomOf_109 : decode cX9_whomOf 109 = .ok (.if_icmp .ne 19, 3) := by decide +kernel
theorem dX9_whomOf_112 : decode cX9_whomOf 112 = .ok (.iload_n 2, 1) := by decide +kernel
theorem dX9_whomOf_113 : decode cX9_whomOf 113 = .ok (.aload_n 0, 1) := by decide +kernel
theorem dX9_whomOf_114 : decode cX9_whomOf 114 = .ok (.getfield 16, 3) := by decide +kernel
theorem dX9_whomOf_117 : decode cX9_whomOf 117 = .ok (.iconst 4, 1) := by decide +kernel
theorem dX9_whomOf_118 : decode cX9_whomOf 118 = .ok (.iload 9, 2) := by decide +kernel
theorem dX9_whomOf_120 : decode cX9_whomOf 120 = .ok (.imul, 1) := by decide +kernel
theorem dX9_whomOf_121 : decode cX9_whomOf 121 = .ok (.iconst 3, 1) := by decide +kernel
theorem dX9_whomOf_122 : decode cX9_whomOf 122 = .ok (.iadd, 1) := by decide +kernel
theorem dX9_whomOf_123 : decode cX9_whomOf 123 = .ok (.iaload, 1) := by decide +kernel
theorem dX9_whomOf_124 : decode cX9_whomOf 124 = .ok (.imul, 1) := by decide +kernel
theorem dX9_whomOf_125 : decode cX9_whomOf 125 = .ok (.goto 4, 3) := by decide +kernel
theorem dX9_whomOf_128 : decode cX9_whomOf 128 = .ok (.iconst 0, 1) := by decide +kernel
theorem dX9_whomOf_129 : decode cX9_whomOf 129 = .ok (.isub, 1) := by decide +kernel
theorem dX9_whomOf_130 : decode cX9_whomOf 130 = .ok (.istore 8, 2) := by decide +kernel
theorem dX9_whomOf_132 : decode cX9_whomOf 132 = .ok (.iinc 9 1, 3) := by decide +kernel
theorem dX9_whomOf_135 : decode cX9_whomOf 135 = .ok (.goto (-45), 3) := by decide +kernel
theorem dX9_whomOf_138 : decode cX9_whomOf 138 = .ok (.iconst 0, 1) := by decide +kernel
theorem dX9_whomOf_139 : decode cX9_whomOf 139 = .ok (.istore 9, 2) := by decide +kernel
theorem dX9_whomOf_141 : decode cX9_whomOf 141 = .ok (.iload 9, 2) := by decide +kernel
theorem dX9_whomOf_143 : decode cX9_whomOf 143 = .ok (.iload_n 2, 1) := by decide +kernel
theorem dX9_whomOf_144 : decode cX9_whomOf 144 = .ok (.if_icmp .ge 30, 3) := by decide +kernel
theorem dX9_whomOf_147 : decode cX9_whomOf 147 = .ok (.aload_n 0, 1) := by decide +kernel
theorem dX9_whomOf_148 : decode cX9_whomOf 148 = .ok (.sipush 255, 3) := by decide +kernel
theorem dX9_whomOf_151 : decode cX9_whomOf 151 = .ok (.aload_n 0, 1) := by decide +kernel
theorem dX9_whomOf_152 : decode cX9_whomOf 152 = .ok (.getfield 94, 3) := by decide +kernel
theorem dX9_whomOf_155 : decode cX9_whomOf 155 = .ok (.iload 4, 2) := by decide +kernel
theorem dX9_whomOf_157 : decode cX9_whomOf 157 = .ok (.iconst (-1), 1) := by decide +kernel
theorem dX9_whomOf_158 : decode cX9_whomOf 158 = .ok (.ixor, 1) := by decide +kernel
theorem dX9_whomOf_159 : decode cX9_whomOf 159 = .ok (.iand, 1) := by decide +kernel
theorem dX9_whomOf_160 : decode cX9_whomOf 160 = .ok (.iload 7, 2) := by decide +kernel
theorem dX9_whomOf_162 : decode cX9_whomOf 162 = .ok (.ior, 1) := by decide +kernel
theorem dX9_whomOf_163 : decode cX9_whomOf 163 = .ok (.invokevirtual 154, 3) := by decide +kernel
theorem dX9_whomOf_166 : decode cX9_whomOf 166 = .ok (.istore 10, 2) := by decide +kernel
theorem dX9_whomOf_168 : decode cX9_whomOf 168 = .ok (.iinc 9 1, 3) := by decide +kernel
theorem dX9_whomOf_171 : decode cX9_whomOf 171 = .ok (.goto (-30), 3) := by decide +kernel
theorem dX9_whomOf_174 : decode cX9_whomOf 174 = .ok (.iload 8, 2) := by decide +kernel
theorem dX9_whomOf_176 : decode cX9_whomOf 176 = .ok (.aload_n 0, 1) := by decide +kernel
theorem dX9_whomOf_177 : decode cX9_whomOf 177 = .ok (.iload_n 1, 1) := by decide +kernel
theorem dX9_whomOf_178 : decode cX9_whomOf 178 = .ok (.invokevirtual 178, 3) := by decide +kernel
theorem dX9_whomOf_181 : decode cX9_whomOf 181 = .ok (.iadd, 1) := by decide +kernel
theorem dX9_whomOf_182 : decode cX9_whomOf 182 = .ok (.istore 8, 2) := by decide +kernel
theorem dX9_whomOf_184 : decode cX9_whomOf 184 = .ok (.iload 8, 2) := by decide +kernel
theorem dX9_whomOf_186 : decode cX9_whomOf 186 = .ok (.iload 6, 2) := by decide +kernel
theorem dX9_whomOf_188 : decode cX9_whomOf 188 = .ok (.if_icmp .gt 23, 3) := by decide +kernel
theorem dX9_whomOf_191 : decode cX9_whomOf 191 = .ok (.iload 8, 2) := by decide +kernel
theorem dX9_whomOf_193 : decode cX9_whomOf 193 = .ok (.iload 6, 2) := by decide +kernel
theorem dX9_whomOf_195 : decode cX9_whomOf 195 = .ok (.if_icmp .ne 20, 3) := by decide +kernel
theorem dX9_whomOf_198 : decode cX9_whomOf 198 = .ok (.iload 7, 2) := by decide +kernel
theorem dX9_whomOf_200 : decode cX9_whomOf 200 = .ok (.invokestatic 181, 3) := by decide +kernel
theorem dX9_whomOf_203 : decode cX9_whomOf 203 = .ok (.iload 5, 2) := by decide +kernel
theorem dX9_whomOf_205 : decode cX9_whomOf 205 = .ok (.invokestatic 181, 3) := by decide +kernel
theorem dX9_whomOf_208 : decode cX9_whomOf 208 = .ok (.if_icmp .ge 7, 3) := by decide +kernel
theorem dX9_whomOf_211 : decode cX9_whomOf 211 = .ok (.iconst 1, 1) := by decide +kernel
theorem dX9_whomOf_212 : decode cX9_whomOf 212 = .ok (.goto 4, 3) := by decide +kernel
theorem dX9_whomOf_215 : decode cX9_whomOf 215 = .ok (.iconst 0, 1) := by decide +kernel
theorem dX9_whomOf_216 : decode cX9_whomOf 216 = .ok (.istore 9, 2) := by decide +kernel
theorem dX9_whomOf_218 : decode cX9_whomOf 218 = .ok (.iload 9, 2) := by decide +kernel
theorem dX9_whomOf_220 : decode cX9_whomOf 220 = .ok (.ifCond .eq 8, 3) := by decide +kernel
theorem dX9_whomOf_223 : decode cX9_whomOf 223 = .ok (.iload 7, 2) := by decide +kernel
theorem dX9_whomOf_225 : decode cX9_whomOf 225 = .ok (.goto 5, 3) := by decide +kernel
theorem dX9_whomOf_228 : decode cX9_whomOf 228 = .ok (.iload 5, 2) := by decide +kernel
theorem dX9_whomOf_230 : decode cX9_whomOf 230 = .ok (.istore 5, 2) := by decide +kernel
theorem dX9_whomOf_232 : decode cX9_whomOf 232 = .ok (.iload 9, 2) := by decide +kernel
theorem dX9_whomOf_234 : decode cX9_whomOf 234 = .ok (.ifCond .eq 8, 3) := by decide +kernel
theorem dX9_whomOf_237 : decode cX9_whomOf 237 = .ok (.iload 8, 2) := by decide +kernel
theorem dX9_whomOf_239 : decode cX9_whomOf 239 = .ok (.goto 5, 3) := by decide +kernel
theorem dX9_whomOf_242 : decode cX9_whomOf 242 = .ok (.iload 6, 2) := by decide +kernel
theorem dX9_whomOf_244 : decode cX9_whomOf 244 = .ok (.istore 6, 2) := by decide +kernel
theorem dX9_whomOf_246 : decode cX9_whomOf 246 = .ok (.iinc 7 1, 3) := by decide +kernel
theorem dX9_whomOf_249 : decode cX9_whomOf 249 = .ok (.goto (-190), 3) := by decide +kernel
theorem dX9_whomOf_252 : decode cX9_whomOf 252 = .ok (.iload_n 3, 1) := by decide +kernel
theorem dX9_whomOf_253 : decode cX9_whomOf 253 = .ok (.ifCond .ne 8, 3) := by decide +kernel
theorem dX9_whomOf_256 : decode cX9_whomOf 256 = .ok (.iload 6, 2) := by decide +kernel
theorem dX9_whomOf_258 : decode cX9_whomOf 258 = .ok (.goto 5, 3) := by decide +kernel
theorem dX9_whomOf_261 : decode cX9_whomOf 261 = .ok (.iload 5, 2) := by decide +kernel
theorem dX9_whomOf_263 : decode cX9_whomOf 263 = .ok (.ireturn, 1) := by decide +kernel
theorem dX9_whom_0 : decode cX9_whom 0 = .ok (.iload_n 1, 1) := by decide +kernel
theorem dX9_whom_1 : decode cX9_whom 1 = .ok (.invokestatic 116, 3) := by decide +kernel
theorem dX9_whom_4 : decode cX9_whom 4 = .ok (.ifCond .ne 6, 3) := by decide +kernel
theorem dX9_whom_7 : decode cX9_whom 7 = .ok (.ldc 184, 2) := by decide +kernel
theorem dX9_whom_9 : decode cX9_whom 9 = .ok (.ireturn, 1) := by decide +kernel
theorem dX9_whom_10 : decode cX9_whom 10 = .ok (.iload_n 2, 1) := by decide +kernel
theorem dX9_whom_11 : decode cX9_whom 11 = .ok (.i2l, 1) := by decide +kernel
theorem dX9_whom_12 : decode cX9_whom 12 = .ok (.lconst 0, 1) := by decide +kernel
theorem dX9_whom_13 : decode cX9_whom 13 = .ok (.ldc2_w 185, 3) := by decide +kernel
theorem dX9_whom_16 : decode cX9_whom 16 = .ok (.invokestatic 70, 3) := by decide +kernel
theorem dX9_whom_19 : decode cX9_whom 19 = .ok (.ifCond .eq 13, 3) := by decide +kernel
theorem dX9_whom_22 : decode cX9_whom 22 = .ok (.iload_n 3, 1) := by decide +kernel
theorem dX9_whom_23 : decode cX9_whom 23 = .ok (.i2l, 1) := by decide +kernel
theorem dX9_whom_24 : decode cX9_whom 24 = .ok (.lconst 0, 1) := by decide +kernel
theorem dX9_whom_25 : decode cX9_whom 25 = .ok (.lconst 1, 1) := by decide +kernel
theorem dX9_whom_26 : decode cX9_whom 26 = .ok (.invokestatic 70, 3) := by decide +kernel
theorem dX9_whom_29 : decode cX9_whom 29 = .ok (.ifCond .ne 6, 3) := by decide +kernel
theorem dX9_whom_32 : decode cX9_whom 32 = .ok (.ldc 187, 2) := by decide +kernel
theorem dX9_whom_34 : decode cX9_whom 34 = .ok (.ireturn, 1) := by decide +kernel
theorem dX9_whom_35 : decode cX9_whom 35 = .ok (.aload_n 0, 1) := by decide +kernel
theorem dX9_whom_36 : decode cX9_whom 36 = .ok (.invokevirtual 147, 3) := by decide +kernel
theorem dX9_whom_39 : decode cX9_whom 39 = .ok (.ifCond .eq 8, 3) := by decide +kernel
theorem dX9_whom_42 : decode cX9_whom 42 = .ok (.ldc 188, 2) := by decide +kernel
theorem dX9_whom_44 : decode cX9_whom 44 = .ok (.goto 10, 3) := by decide +kernel
theorem dX9_whom_47 : decode cX9_whom 47 = .ok (.aload_n 0, 1) := by decide +kernel
theorem dX9_whom_48 : decode cX9_whom 48 = .ok (.iload_n 1, 1) := by decide +kernel
theorem dX9_whom_49 : decode cX9_whom 49 = .ok (.iload_n 2, 1) := by decide +kernel
theorem dX9_whom_50 : decode cX9_whom 50 = .ok (.iload_n 3, 1) := by decide +kernel
theorem dX9_whom_51 : decode cX9_whom 51 = .ok (.invokevirtual 189, 3) := by decide +kernel
theorem dX9_whom_54 : decode cX9_whom 54 = .ok (.ireturn, 1) := by decide +kernel
theorem dX9_stillOf_0 : decode cX9_stillOf 0 = .ok (.aload_n 0, 1) := by decide +kernel
theorem dX9_stillOf_1 : decode cX9_stillOf 1 = .ok (.invokevirtual 151, 3) := by decide +kernel
theorem dX9_stillOf_4 : decode cX9_stillOf 4 = .ok (.iconst 0, 1) := by decide +kernel
theorem dX9_stillOf_5 : decode cX9_stillOf 5 = .ok (.istore_n 1, 1) := by decide +kernel
theorem dX9_stillOf_6 : decode cX9_stillOf 6 = .ok (.iload_n 1, 1) := by decide +kernel
theorem dX9_stillOf_7 : decode cX9_stillOf 7 = .ok (.bipush 61, 2) := by decide +kernel
theorem dX9_stillOf_9 : decode cX9_stillOf 9 = .ok (.if_icmp .ge 25, 3) := by decide +kernel
theorem dX9_stillOf_12 : decode cX9_stillOf 12 = .ok (.aload_n 0, 1) := by decide +kernel
theorem dX9_stillOf_13 : decode cX9_stillOf 13 = .ok (.sipush 255, 3) := by decide +kernel
theorem dX9_stillOf_16 : decode cX9_stillOf 16 = .ok (.aload_n 0, 1) := by decide +kernel
theorem dX9_stillOf_17 : decode cX9_stillOf 17 = .ok (.getfield 94, 3) := by decide +kernel
theorem dX9_stillOf_20 : decode cX9_stillOf 20 = .ok (.invokevirtual 154, 3) := by decide +kernel
theorem dX9_stillOf_23 : decode cX9_stillOf 23 = .ok (.ifCond .ne 5, 3) := by decide +kernel
theorem dX9_stillOf_26 : decode cX9_stillOf 26 = .ok (.iload_n 1, 1) := by decide +kernel
theorem dX9_stillOf_27 : decode cX9_stillOf 27 = .ok (.ireturn, 1) := by decide +kernel
theorem dX9_stillOf_28 : decode cX9_stillOf 28 = .ok (.iinc 1 1, 3) := by decide +kernel
theorem dX9_stillOf_31 : decode cX9_stillOf 31 = .ok (.goto (-25), 3) := by decide +kernel
theorem dX9_stillOf_34 : decode cX9_stillOf 34 = .ok (.iconst (-1), 1) := by decide +kernel
theorem dX9_stillOf_35 : decode cX9_stillOf 35 = .ok (.ireturn, 1) := by decide +kernel
theorem dX9_still_0 : decode cX9_still 0 = .ok (.aload_n 0, 1) := by decide +kernel
theorem dX9_still_1 : decode cX9_still 1 = .ok (.invokevirtual 147, 3) := by decide +kernel
theorem dX9_still_4 : decode cX9_still 4 = .ok (.ifCond .eq 8, 3) := by decide +kernel
theorem dX9_still_7 : decode cX9_still 7 = .ok (.bipush (-103), 2) := by decide +kernel
theorem dX9_still_9 : decode cX9_still 9 = .ok (.goto 7, 3) := by decide +kernel
theorem dX9_still_12 : decode cX9_still 12 = .ok (.aload_n 0, 1) := by decide +kernel
theorem dX9_still_13 : decode cX9_still 13 = .ok (.invokevirtual 193, 3) := by decide +kernel
theorem dX9_still_16 : decode cX9_still 16 = .ok (.ireturn, 1) := by decide +kernel
theorem dX9_seen_0 : decode cX9_seen 0 = .ok (.aload_n 0, 1) := by decide +kernel
theorem dX9_seen_1 : decode cX9_seen 1 = .ok (.iload_n 1, 1) := by decide +kernel
theorem dX9_seen_2 : decode cX9_seen 2 = .ok (.invokevirtual 124, 3) := by decide +kernel
theorem dX9_seen_5 : decode cX9_seen 5 = .ok (.ifCond .eq 15, 3) := by decide +kernel
theorem dX9_seen_8 : decode cX9_seen 8 = .ok (.iload_n 2, 1) := by decide +kernel
theorem dX9_seen_9 : decode cX9_seen 9 = .ok (.iconst (-1), 1) := by decide +kernel
theorem dX9_seen_10 : decode cX9_seen 10 = .ok (.if_icmp .eq 13, 3) := by decide +kernel
theorem dX9_seen_13 : decode cX9_seen 13 = .ok (.iload_n 2, 1) := by decide +kernel
theorem dX9_seen_14 : decode cX9_seen 14 = .ok (.invokestatic 116, 3) := by decide +kernel
theorem dX9_seen_17 : decode cX9_seen 17 = .ok (.ifCond .ne 6, 3) := by decide +kernel
theorem dX9_seen_20 : decode cX9_seen 20 = .ok (.bipush (-101), 2) := by decide +kernel
theorem dX9_seen_22 : decode cX9_seen 22 = .ok (.ireturn, 1) := by decide +kernel
theorem dX9_seen_23 : decode cX9_seen 23 = .ok (.aload_n 0, 1) := by decide +kernel
theorem dX9_seen_24 : decode cX9_seen 24 = .ok (.getfield 25, 3) := by decide +kernel
theorem dX9_seen_27 : decode cX9_seen 27 = .ok (.iconst 4, 1) := by decide +kernel
theorem dX9_seen_28 : decode cX9_seen 28 = .ok (.iload_n 1, 1) := by decide +kernel
theorem dX9_seen_29 : decode cX9_seen 29 = .ok (.imul, 1) := by decide +kernel
theorem dX9_seen_30 : decode cX9_seen 30 = .ok (.iconst 3, 1) := by decide +kernel
theorem dX9_seen_31 : decode cX9_seen 31 = .ok (.iadd, 1) := by decide +kernel
theorem dX9_seen_32 : decode cX9_seen 32 = .ok (.iaload, 1) := by decide +kernel
theorem dX9_seen_33 : decode cX9_seen 33 = .ok (.istore_n 3, 1) := by decide +kernel
theorem dX9_seen_34 : decode cX9_seen 34 = .ok (.aload_n 0, 1) := by decide +kernel
theorem dX9_seen_35 : decode cX9_seen 35 = .ok (.getfield 25, 3) := by decide +kernel
theorem dX9_seen_38 : decode cX9_seen 38 = .ok (.iconst 4, 1) := by decide +kernel
theorem dX9_seen_39 : decode cX9_seen 39 = .ok (.iload_n 1, 1) := by decide +kernel
theorem dX9_seen_40 : decode cX9_seen 40 = .ok (.imul, 1) := by decide +kernel
theorem dX9_seen_41 : decode cX9_seen 41 = .ok (.iconst 3, 1) := by decide +kernel
theorem dX9_seen_42 : decode cX9_seen 42 = .ok (.iadd, 1) := by decide +kernel
theorem dX9_seen_43 : decode cX9_seen 43 = .ok (.iload_n 2, 1) := by decide +kernel
theorem dX9_seen_44 : decode cX9_seen 44 = .ok (.iastore, 1) := by decide +kernel
theorem dX9_seen_45 : decode cX9_seen 45 = .ok (.iload_n 3, 1) := by decide +kernel
theorem dX9_seen_46 : decode cX9_seen 46 = .ok (.ireturn, 1) := by decide +kernel
theorem dX9_isSeenSo_0 : decode cX9_isSeenSo 0 = .ok (.aload_n 0, 1) := by decide +kernel
theorem dX9_isSeenSo_1 : decode cX9_isSeenSo 1 = .ok (.invokevirtual 151, 3) := by decide +kernel
theorem dX9_isSeenSo_4 : decode cX9_isSeenSo 4 = .ok (.aload_n 0, 1) := by decide +kernel
theorem dX9_isSeenSo_5 : decode cX9_isSeenSo 5 = .ok (.iload_n 1, 1) := by decide +kernel
theorem dX9_isSeenSo_6 : decode cX9_isSeenSo 6 = .ok (.aload_n 0, 1) := by decide +kernel
theorem dX9_isSeenSo_7 : decode cX9_isSeenSo 7 = .ok (.getfield 94, 3) := by decide +kernel
theorem dX9_isSeenSo_10 : decode cX9_isSeenSo 10 = .ok (.invokevirtual 154, 3) := by decide +kernel
theorem dX9_isSeenSo_13 : decode cX9_isSeenSo 13 = .ok (.istore_n 2, 1) := by decide +kernel
theorem dX9_isSeenSo_14 : decode cX9_isSeenSo 14 = .ok (.iconst 1, 1) := by decide +kernel
theorem dX9_isSeenSo_15 : decode cX9_isSeenSo 15 = .ok (.istore_n 3, 1) := by decide +kernel
theorem dX9_isSeenSo_16 : decode cX9_isSeenSo 16 = .ok (.iconst 0, 1) := by decide +kernel
theorem dX9_isSeenSo_17 : decode cX9_isSeenSo 17 = .ok (.istore 4, 2) := by decide +kernel
theorem dX9_isSeenSo_19 : decode cX9_isSeenSo 19 = .ok (.iload 4, 2) := by decide +kernel
theorem dX9_isSeenSo_21 : decode cX9_isSeenSo 21 = .ok (.aload_n 0, 1) := by decide +kernel
theorem dX9_isSeenSo_22 : decode cX9_isSeenSo 22 = .ok (.getfield 113, 3) := by decide +kernel
theorem dX9_isSeenSo_25 : decode cX9_isSeenSo 25 = .ok (.if_icmp .ge 55, 3) := by decide +kernel
theorem dX9_isSeenSo_28 : decode cX9_isSeenSo 28 = .ok (.iload_n 3, 1) := by decide +kernel
theorem dX9_isSeenSo_29 : decode cX9_isSeenSo 29 = .ok (.ifCond .eq 43, 3) := by decide +kernel
theorem dX9_isSeenSo_32 : decode cX9_isSeenSo 32 = .ok (.aload_n 0, 1) := by decide +kernel
theorem dX9_isSeenSo_33 : decode cX9_isSeenSo 33 = .ok (.getfield 25, 3) := by decide +kernel
theorem dX9_isSeenSo_36 : decode cX9_isSeenSo 36 = .ok (.iconst 4, 1) := by decide +kernel
theorem dX9_isSeenSo_37 : decode cX9_isSeenSo 37 = .ok (.iload 4, 2) := by decide +kernel
theorem dX9_isSeenSo_39 : decode cX9_isSeenSo 39 = .ok (.imul, 1) := by decide +kernel
theorem dX9_isSeenSo_40 : decode cX9_isSeenSo 40 = .ok (.iconst 3, 1) := by decide +kernel
theorem dX9_isSeenSo_41 : decode cX9_isSeenSo 41 = .ok (.iadd, 1) := by decide +kernel
theorem dX9_isSeenSo_42 : decode cX9_isSeenSo 42 = .ok (.iaload, 1) := by decide +kernel
theorem dX9_isSeenSo_43 : decode cX9_isSeenSo 43 = .ok (.iconst (-1), 1) := by decide +kernel
theorem dX9_isSeenSo_44 : decode cX9_isSeenSo 44 = .ok (.if_icmp .eq 24, 3) := by decide +kernel
theorem dX9_isSeenSo_47 : decode cX9_isSeenSo 47 = .ok (.aload_n 0, 1) := by decide +kernel
theorem dX9_isSeenSo_48 : decode cX9_isSeenSo 48 = .ok (.getfield 25, 3) := by decide +kernel
theorem dX9_isSeenSo_51 : decode cX9_isSeenSo 51 = .ok (.iconst 4, 1) := by decide +kernel
theorem dX9_isSeenSo_52 : decode cX9_isSeenSo 52 = .ok (.iload 4, 2) := by decide +kernel
theorem dX9_isSeenSo_54 : decode cX9_isSeenSo 54 = .ok (.imul, 1) := by decide +kernel
theorem dX9_isSeenSo_55 : decode cX9_isSeenSo 55 = .ok (.iconst 3, 1) := by decide +kernel
theorem dX9_isSeenSo_56 : decode cX9_isSeenSo 56 = .ok (.iadd, 1) := by decide +kernel
theorem dX9_isSeenSo_57 : decode cX9_isSeenSo 57 = .ok (.iaload, 1) := by decide +kernel
theorem dX9_isSeenSo_58 : decode cX9_isSeenSo 58 = .ok (.aload_n 0, 1) := by decide +kernel
theorem dX9_isSeenSo_59 : decode cX9_isSeenSo 59 = .ok (.getfield 28, 3) := by decide +kernel
theorem dX9_isSeenSo_62 : decode cX9_isSeenSo 62 = .ok (.iload 4, 2) := by decide +kernel
theorem dX9_isSeenSo_64 : decode cX9_isSeenSo 64 = .ok (.iaload, 1) := by decide +kernel
theorem dX9_isSeenSo_65 : decode cX9_isSeenSo 65 = .ok (.if_icmp .ne 7, 3) := by decide +kernel
theorem dX9_isSeenSo_68 : decode cX9_isSeenSo 68 = .ok (.iconst 1, 1) := by decide +kernel
theorem dX9_isSeenSo_69 : decode cX9_isSeenSo 69 = .ok (.goto 4, 3) := by decide +kernel
theorem dX9_isSeenSo_72 : decode cX9_isSeenSo 72 = .ok (.iconst 0, 1) := by decide +kernel
theorem dX9_isSeenSo_73 : decode cX9_isSeenSo 73 = .ok (.istore_n 3, 1) := by decide +kernel
theorem dX9_isSeenSo_74 : decode cX9_isSeenSo 74 = .ok (.iinc 4 1, 3) := by decide +kernel
theorem dX9_isSeenSo_77 : decode cX9_isSeenSo 77 = .ok (.goto (-58), 3) := by decide +kernel
theorem dX9_isSeenSo_80 : decode cX9_isSeenSo 80 = .ok (.iload_n 3, 1) := by decide +kernel
theorem dX9_isSeenSo_81 : decode cX9_isSeenSo 81 = .ok (.ireturn, 1) := by decide +kernel
theorem dX9_whoOf_0 : decode cX9_whoOf 0 = .ok (.aload_n 0, 1) := by decide +kernel
theorem dX9_whoOf_1 : decode cX9_whoOf 1 = .ok (.sipush 255, 3) := by decide +kernel
theorem dX9_whoOf_4 : decode cX9_whoOf 4 = .ok (.invokevirtual 196, 3) := by decide +kernel
theorem dX9_whoOf_7 : decode cX9_whoOf 7 = .ok (.ifCond .eq 9, 3) := by decide +kernel
theorem dX9_whoOf_10 : decode cX9_whoOf 10 = .ok (.sipush 256, 3) := by decide +kernel
theorem dX9_whoOf_13 : decode cX9_whoOf 13 = .ok (.goto 4, 3) := by decide +kernel
theorem dX9_whoOf_16 : decode cX9_whoOf 16 = .ok (.iconst 0, 1) := by decide +kernel
theorem dX9_whoOf_17 : decode cX9_whoOf 17 = .ok (.istore_n 1, 1) := by decide +kernel
theorem dX9_whoOf_18 : decode cX9_whoOf 18 = .ok (.iconst 0, 1) := by decide +kernel
theorem dX9_whoOf_19 : decode cX9_whoOf 19 = .ok (.istore_n 2, 1) := by decide +kernel
theorem dX9_whoOf_20 : decode cX9_whoOf 20 = .ok (.iload_n 2, 1) := by decide +kernel
theorem dX9_whoOf_21 : decode cX9_whoOf 21 = .ok (.aload_n 0, 1) := by decide +kernel
theorem dX9_whoOf_22 : decode cX9_whoOf 22 = .ok (.getfield 91, 3) := by decide +kernel
theorem dX9_whoOf_25 : decode cX9_whoOf 25 = .ok (.if_icmp .ge 35, 3) := by decide +kernel
theorem dX9_whoOf_28 : decode cX9_whoOf 28 = .ok (.iload_n 1, 1) := by decide +kernel
theorem dX9_whoOf_29 : decode cX9_whoOf 29 = .ok (.aload_n 0, 1) := by decide +kernel
theorem dX9_whoOf_30 : decode cX9_whoOf 30 = .ok (.sipush 255, 3) := by decide +kernel
theorem dX9_whoOf_33 : decode cX9_whoOf 33 = .ok (.iconst 1, 1) := by decide +kernel
theorem dX9_whoOf_34 : decode cX9_whoOf 34 = .ok (.iload_n 2, 1) := by decide +kernel
theorem dX9_whoOf_35 : decode cX9_whoOf 35 = .ok (.ishl, 1) := by decide +kernel
theorem dX9_whoOf_36 : decode cX9_whoOf 36 = .ok (.iconst (-1), 1) := by decide +kernel
theorem dX9_whoOf_37 : decode cX9_whoOf 37 = .ok (.ixor, 1) := by decide +kernel
theorem dX9_whoOf_38 : decode cX9_whoOf 38 = .ok (.iand, 1) := by decide +kernel
theorem dX9_whoOf_39 : decode cX9_whoOf 39 = .ok (.invokevirtual 196, 3) := by decide +kernel
theorem dX9_whoOf_42 : decode cX9_whoOf 42 = .ok (.ifCond .eq 9, 3) := by decide +kernel
theorem dX9_whoOf_45 : decode cX9_whoOf 45 = .ok (.iconst 1, 1) := by decide +kernel
theorem dX9_whoOf_46 : decode cX9_whoOf 46 = .ok (.iload_n 2, 1) := by decide +kernel
theorem dX9_whoOf_47 : decode cX9_whoOf 47 = .ok (.ishl, 1) := by decide +kernel
theorem dX9_whoOf_48 : decode cX9_whoOf 48 = .ok (.goto 4, 3) := by decide +kernel
theorem dX9_whoOf_51 : decode cX9_whoOf 51 = .ok (.iconst 0, 1) := by decide +kernel
theorem dX9_whoOf_52 : decode cX9_whoOf 52 = .ok (.ior, 1) := by decide +kernel
theorem dX9_whoOf_53 : decode cX9_whoOf 53 = .ok (.istore_n 1, 1) := by decide +kernel
theorem dX9_whoOf_54 : decode cX9_whoOf 54 = .ok (.iinc 2 1, 3) := by decide +kernel
theorem dX9_whoOf_57 : decode cX9_whoOf 57 = .ok (.goto (-37), 3) := by decide +kernel
theorem dX9_whoOf_60 : decode cX9_whoOf 60 = .ok (.iload_n 1, 1) := by decide +kernel
theorem dX9_whoOf_61 : decode cX9_whoOf 61 = .ok (.ireturn, 1) := by decide +kernel
theorem dX9_who_0 : decode cX9_who 0 = .ok (.aload_n 0, 1) := by decide +kernel
theorem dX9_who_1 : decode cX9_who 1 = .ok (.invokevirtual 147, 3) := by decide +kernel
theorem dX9_who_4 : decode cX9_who 4 = .ok (.ifCond .eq 8, 3) := by decide +kernel
theorem dX9_who_7 : decode cX9_who 7 = .ok (.bipush (-103), 2) := by decide +kernel
theorem dX9_who_9 : decode cX9_who 9 = .ok (.goto 7, 3) := by decide +kernel
theorem dX9_who_12 : decode cX9_who 12 = .ok (.aload_n 0, 1) := by decide +kernel
theorem dX9_who_13 : decode cX9_who 13 = .ok (.invokevirtual 199, 3) := by decide +kernel
theorem dX9_who_16 : decode cX9_who 16 = .ok (.ireturn, 1) := by decide +kernel
theorem dX9_owesOf_0 : decode cX9_owesOf 0 = .ok (.iconst 0, 1) := by decide +kernel
theorem dX9_owesOf_1 : decode cX9_owesOf 1 = .ok (.istore_n 3, 1) := by decide +kernel
theorem dX9_owesOf_2 : decode cX9_owesOf 2 = .ok (.iconst 0, 1) := by decide +kernel
theorem dX9_owesOf_3 : decode cX9_owesOf 3 = .ok (.istore 4, 2) := by decide +kernel
theorem dX9_owesOf_5 : decode cX9_owesOf 5 = .ok (.iload 4, 2) := by decide +kernel
theorem dX9_owesOf_7 : decode cX9_owesOf 7 = .ok (.aload_n 0, 1) := by decide +kernel
theorem dX9_owesOf_8 : decode cX9_owesOf 8 = .ok (.getfield 113, 3) := by decide +kernel
theorem dX9_owesOf_11 : decode cX9_owesOf 11 = .ok (.if_icmp .ge 55, 3) := by decide +kernel
theorem dX9_owesOf_14 : decode cX9_owesOf 14 = .ok (.iload_n 3, 1) := by decide +kernel
theorem dX9_owesOf_15 : decode cX9_owesOf 15 = .ok (.aload_n 0, 1) := by decide +kernel
theorem dX9_owesOf_16 : decode cX9_owesOf 16 = .ok (.getfield 25, 3) := by decide +kernel
theorem dX9_owesOf_19 : decode cX9_owesOf 19 = .ok (.iconst 4, 1) := by decide +kernel
theorem dX9_owesOf_20 : decode cX9_owesOf 20 = .ok (.iload 4, 2) := by decide +kernel
theorem dX9_owesOf_22 : decode cX9_owesOf 22 = .ok (.imul, 1) := by decide +kernel
theorem dX9_owesOf_23 : decode cX9_owesOf 23 = .ok (.iconst 2, 1) := by decide +kernel
theorem dX9_owesOf_24 : decode cX9_owesOf 24 = .ok (.iadd, 1) := by decide +kernel
theorem dX9_owesOf_25 : decode cX9_owesOf 25 = .ok (.iaload, 1) := by decide +kernel
theorem dX9_owesOf_26 : decode cX9_owesOf 26 = .ok (.iload_n 1, 1) := by decide +kernel
theorem dX9_owesOf_27 : decode cX9_owesOf 27 = .ok (.if_icmp .ne 30, 3) := by decide +kernel
theorem dX9_owesOf_30 : decode cX9_owesOf 30 = .ok (.aload_n 0, 1) := by decide +kernel
theorem dX9_owesOf_31 : decode cX9_owesOf 31 = .ok (.getfield 25, 3) := by decide +kernel
theorem dX9_owesOf_34 : decode cX9_owesOf 34 = .ok (.iconst 4, 1) := by decide +kernel
theorem dX9_owesOf_35 : decode cX9_owesOf 35 = .ok (.iload 4, 2) := by decide +kernel
theorem dX9_owesOf_37 : decode cX9_owesOf 37 = .ok (.imul, 1) := by decide +kernel
theorem dX9_owesOf_38 : decode cX9_owesOf 38 = .ok (.iconst 1, 1) := by decide +kernel
theorem dX9_owesOf_39 : decode cX9_owesOf 39 = .ok (.iadd, 1) := by decide +kernel
theorem dX9_owesOf_40 : decode cX9_owesOf 40 = .ok (.iaload, 1) := by decide +kernel
end
section
theorem dX9_owesOf_41 : decode cX9_owesOf 41 = .ok (.iload_n 2, 1) := by decide +kernel
theorem dX9_owesOf_42 : decode cX9_owesOf 42 = .ok (.if_icmp .ne 15, 3) := by decide +kernel
theorem dX9_owesOf_45 : decode cX9_owesOf 45 = .ok (.aload_n 0, 1) := by decide +kernel
theorem dX9_owesOf_46 : decode cX9_owesOf 46 = .ok (.getfield 25, 3) := by decide +kernel
theorem dX9_owesOf_49 : decode cX9_owesOf 49 = .ok (.iconst 4, 1) := by decide +kernel
theorem dX9_owesOf_50 : decode cX9_owesOf 50 = .ok (.iload 4, 2) := by decide +kernel
theorem dX9_owesOf_52 : decode cX9_owesOf 52 = .ok (.imul, 1) := by decide +kernel
theorem dX9_owesOf_53 : decode cX9_owesOf 53 = .ok (.iaload, 1) := by decide +kernel
theorem dX9_owesOf_54 : decode cX9_owesOf 54 = .ok (.goto 4, 3) := by decide +kernel
theorem dX9_owesOf_57 : decode cX9_owesOf 57 = .ok (.iconst 0, 1) := by decide +kernel
theorem dX9_owesOf_58 : decode cX9_owesOf 58 = .ok (.iadd, 1) := by decide +kernel
theorem dX9_owesOf_59 : decode cX9_owesOf 59 = .ok (.istore_n 3, 1) := by decide +kernel
theorem dX9_owesOf_60 : decode cX9_owesOf 60 = .ok (.iinc 4 1, 3) := by decide +kernel
theorem dX9_owesOf_63 : decode cX9_owesOf 63 = .ok (.goto (-58), 3) := by decide +kernel
theorem dX9_owesOf_66 : decode cX9_owesOf 66 = .ok (.iload_n 3, 1) := by decide +kernel
theorem dX9_owesOf_67 : decode cX9_owesOf 67 = .ok (.ireturn, 1) := by decide +kernel
theorem dX9_owes_0 : decode cX9_owes 0 = .ok (.iload_n 1, 1) := by decide +kernel
theorem dX9_owes_1 : decode cX9_owes 1 = .ok (.invokestatic 116, 3) := by decide +kernel
theorem dX9_owes_4 : decode cX9_owes 4 = .ok (.ifCond .eq 24, 3) := by decide +kernel
theorem dX9_owes_7 : decode cX9_owes 7 = .ok (.iload_n 2, 1) := by decide +kernel
theorem dX9_owes_8 : decode cX9_owes 8 = .ok (.invokestatic 116, 3) := by decide +kernel
theorem dX9_owes_11 : decode cX9_owes 11 = .ok (.ifCond .eq 17, 3) := by decide +kernel
theorem dX9_owes_14 : decode cX9_owes 14 = .ok (.iload_n 1, 1) := by decide +kernel
theorem dX9_owes_15 : decode cX9_owes 15 = .ok (.iload_n 2, 1) := by decide +kernel
theorem dX9_owes_16 : decode cX9_owes 16 = .ok (.if_icmp .eq 12, 3) := by decide +kernel
theorem dX9_owes_19 : decode cX9_owes 19 = .ok (.aload_n 0, 1) := by decide +kernel
theorem dX9_owes_20 : decode cX9_owes 20 = .ok (.iload_n 1, 1) := by decide +kernel
theorem dX9_owes_21 : decode cX9_owes 21 = .ok (.iload_n 2, 1) := by decide +kernel
theorem dX9_owes_22 : decode cX9_owes 22 = .ok (.invokevirtual 202, 3) := by decide +kernel
theorem dX9_owes_25 : decode cX9_owes 25 = .ok (.goto 5, 3) := by decide +kernel
theorem dX9_owes_28 : decode cX9_owes 28 = .ok (.bipush (-101), 2) := by decide +kernel
theorem dX9_owes_30 : decode cX9_owes 30 = .ok (.ireturn, 1) := by decide +kernel
theorem dX9_balance_0 : decode cX9_balance 0 = .ok (.iconst 0, 1) := by decide +kernel
theorem dX9_balance_1 : decode cX9_balance 1 = .ok (.istore_n 2, 1) := by decide +kernel
theorem dX9_balance_2 : decode cX9_balance 2 = .ok (.iconst 0, 1) := by decide +kernel
theorem dX9_balance_3 : decode cX9_balance 3 = .ok (.istore_n 3, 1) := by decide +kernel
theorem dX9_balance_4 : decode cX9_balance 4 = .ok (.iload_n 3, 1) := by decide +kernel
theorem dX9_balance_5 : decode cX9_balance 5 = .ok (.bipush 8, 2) := by decide +kernel
theorem dX9_balance_7 : decode cX9_balance 7 = .ok (.if_icmp .ge 31, 3) := by decide +kernel
theorem dX9_balance_10 : decode cX9_balance 10 = .ok (.iload_n 2, 1) := by decide +kernel
theorem dX9_balance_11 : decode cX9_balance 11 = .ok (.iload_n 1, 1) := by decide +kernel
theorem dX9_balance_12 : decode cX9_balance 12 = .ok (.iload_n 3, 1) := by decide +kernel
theorem dX9_balance_13 : decode cX9_balance 13 = .ok (.ishr, 1) := by decide +kernel
theorem dX9_balance_14 : decode cX9_balance 14 = .ok (.iconst 1, 1) := by decide +kernel
theorem dX9_balance_15 : decode cX9_balance 15 = .ok (.iand, 1) := by decide +kernel
theorem dX9_balance_16 : decode cX9_balance 16 = .ok (.iconst 1, 1) := by decide +kernel
theorem dX9_balance_17 : decode cX9_balance 17 = .ok (.if_icmp .ne 12, 3) := by decide +kernel
theorem dX9_balance_20 : decode cX9_balance 20 = .ok (.aload_n 0, 1) := by decide +kernel
theorem dX9_balance_21 : decode cX9_balance 21 = .ok (.getfield 41, 3) := by decide +kernel
theorem dX9_balance_24 : decode cX9_balance 24 = .ok (.iload_n 3, 1) := by decide +kernel
theorem dX9_balance_25 : decode cX9_balance 25 = .ok (.iaload, 1) := by decide +kernel
theorem dX9_balance_26 : decode cX9_balance 26 = .ok (.goto 4, 3) := by decide +kernel
theorem dX9_balance_29 : decode cX9_balance 29 = .ok (.iconst 0, 1) := by decide +kernel
theorem dX9_balance_30 : decode cX9_balance 30 = .ok (.iadd, 1) := by decide +kernel
theorem dX9_balance_31 : decode cX9_balance 31 = .ok (.istore_n 2, 1) := by decide +kernel
theorem dX9_balance_32 : decode cX9_balance 32 = .ok (.iinc 3 1, 3) := by decide +kernel
theorem dX9_balance_35 : decode cX9_balance 35 = .ok (.goto (-31), 3) := by decide +kernel
theorem dX9_balance_38 : decode cX9_balance 38 = .ok (.iload_n 2, 1) := by decide +kernel
theorem dX9_balance_39 : decode cX9_balance 39 = .ok (.ireturn, 1) := by decide +kernel
theorem dX9_fewestOf_0 : decode cX9_fewestOf 0 = .ok (.iconst 0, 1) := by decide +kernel
theorem dX9_fewestOf_1 : decode cX9_fewestOf 1 = .ok (.istore_n 1, 1) := by decide +kernel
theorem dX9_fewestOf_2 : decode cX9_fewestOf 2 = .ok (.iload_n 1, 1) := by decide +kernel
theorem dX9_fewestOf_3 : decode cX9_fewestOf 3 = .ok (.bipush 8, 2) := by decide +kernel
theorem dX9_fewestOf_5 : decode cX9_fewestOf 5 = .ok (.if_icmp .ge 102, 3) := by decide +kernel
theorem dX9_fewestOf_8 : decode cX9_fewestOf 8 = .ok (.aload_n 0, 1) := by decide +kernel
theorem dX9_fewestOf_9 : decode cX9_fewestOf 9 = .ok (.getfield 41, 3) := by decide +kernel
theorem dX9_fewestOf_12 : decode cX9_fewestOf 12 = .ok (.iload_n 1, 1) := by decide +kernel
theorem dX9_fewestOf_13 : decode cX9_fewestOf 13 = .ok (.iconst 0, 1) := by decide +kernel
theorem dX9_fewestOf_14 : decode cX9_fewestOf 14 = .ok (.iastore, 1) := by decide +kernel
theorem dX9_fewestOf_15 : decode cX9_fewestOf 15 = .ok (.iconst 0, 1) := by decide +kernel
theorem dX9_fewestOf_16 : decode cX9_fewestOf 16 = .ok (.istore_n 2, 1) := by decide +kernel
theorem dX9_fewestOf_17 : decode cX9_fewestOf 17 = .ok (.iload_n 2, 1) := by decide +kernel
theorem dX9_fewestOf_18 : decode cX9_fewestOf 18 = .ok (.aload_n 0, 1) := by decide +kernel
theorem dX9_fewestOf_19 : decode cX9_fewestOf 19 = .ok (.getfield 113, 3) := by decide +kernel
theorem dX9_fewestOf_22 : decode cX9_fewestOf 22 = .ok (.if_icmp .ge 79, 3) := by decide +kernel
theorem dX9_fewestOf_25 : decode cX9_fewestOf 25 = .ok (.aload_n 0, 1) := by decide +kernel
theorem dX9_fewestOf_26 : decode cX9_fewestOf 26 = .ok (.getfield 41, 3) := by decide +kernel
theorem dX9_fewestOf_29 : decode cX9_fewestOf 29 = .ok (.iload_n 1, 1) := by decide +kernel
theorem dX9_fewestOf_30 : decode cX9_fewestOf 30 = .ok (.dup2, 1) := by decide +kernel
theorem dX9_fewestOf_31 : decode cX9_fewestOf 31 = .ok (.iaload, 1) := by decide +kernel
theorem dX9_fewestOf_32 : decode cX9_fewestOf 32 = .ok (.aload_n 0, 1) := by decide +kernel
theorem dX9_fewestOf_33 : decode cX9_fewestOf 33 = .ok (.getfield 25, 3) := by decide +kernel
theorem dX9_fewestOf_36 : decode cX9_fewestOf 36 = .ok (.iconst 4, 1) := by decide +kernel
theorem dX9_fewestOf_37 : decode cX9_fewestOf 37 = .ok (.iload_n 2, 1) := by decide +kernel
theorem dX9_fewestOf_38 : decode cX9_fewestOf 38 = .ok (.imul, 1) := by decide +kernel
theorem dX9_fewestOf_39 : decode cX9_fewestOf 39 = .ok (.iconst 2, 1) := by decide +kernel
theorem dX9_fewestOf_40 : decode cX9_fewestOf 40 = .ok (.iadd, 1) := by decide +kernel
theorem dX9_fewestOf_41 : decode cX9_fewestOf 41 = .ok (.iaload, 1) := by decide +kernel
theorem dX9_fewestOf_42 : decode cX9_fewestOf 42 = .ok (.iload_n 1, 1) := by decide +kernel
theorem dX9_fewestOf_43 : decode cX9_fewestOf 43 = .ok (.if_icmp .ne 14, 3) := by decide +kernel
theorem dX9_fewestOf_46 : decode cX9_fewestOf 46 = .ok (.aload_n 0, 1) := by decide +kernel
theorem dX9_fewestOf_47 : decode cX9_fewestOf 47 = .ok (.getfield 25, 3) := by decide +kernel
theorem dX9_fewestOf_50 : decode cX9_fewestOf 50 = .ok (.iconst 4, 1) := by decide +kernel
theorem dX9_fewestOf_51 : decode cX9_fewestOf 51 = .ok (.iload_n 2, 1) := by decide +kernel
theorem dX9_fewestOf_52 : decode cX9_fewestOf 52 = .ok (.imul, 1) := by decide +kernel
theorem dX9_fewestOf_53 : decode cX9_fewestOf 53 = .ok (.iaload, 1) := by decide +kernel
theorem dX9_fewestOf_54 : decode cX9_fewestOf 54 = .ok (.goto 4, 3) := by decide +kernel
theorem dX9_fewestOf_57 : decode cX9_fewestOf 57 = .ok (.iconst 0, 1) := by decide +kernel
theorem dX9_fewestOf_58 : decode cX9_fewestOf 58 = .ok (.iadd, 1) := by decide +kernel
theorem dX9_fewestOf_59 : decode cX9_fewestOf 59 = .ok (.iastore, 1) := by decide +kernel
theorem dX9_fewestOf_60 : decode cX9_fewestOf 60 = .ok (.aload_n 0, 1) := by decide +kernel
theorem dX9_fewestOf_61 : decode cX9_fewestOf 61 = .ok (.getfield 41, 3) := by decide +kernel
theorem dX9_fewestOf_64 : decode cX9_fewestOf 64 = .ok (.iload_n 1, 1) := by decide +kernel
theorem dX9_fewestOf_65 : decode cX9_fewestOf 65 = .ok (.dup2, 1) := by decide +kernel
theorem dX9_fewestOf_66 : decode cX9_fewestOf 66 = .ok (.iaload, 1) := by decide +kernel
theorem dX9_fewestOf_67 : decode cX9_fewestOf 67 = .ok (.aload_n 0, 1) := by decide +kernel
theorem dX9_fewestOf_68 : decode cX9_fewestOf 68 = .ok (.getfield 25, 3) := by decide +kernel
theorem dX9_fewestOf_71 : decode cX9_fewestOf 71 = .ok (.iconst 4, 1) := by decide +kernel
theorem dX9_fewestOf_72 : decode cX9_fewestOf 72 = .ok (.iload_n 2, 1) := by decide +kernel
theorem dX9_fewestOf_73 : decode cX9_fewestOf 73 = .ok (.imul, 1) := by decide +kernel
theorem dX9_fewestOf_74 : decode cX9_fewestOf 74 = .ok (.iconst 1, 1) := by decide +kernel
theorem dX9_fewestOf_75 : decode cX9_fewestOf 75 = .ok (.iadd, 1) := by decide +kernel
theorem dX9_fewestOf_76 : decode cX9_fewestOf 76 = .ok (.iaload, 1) := by decide +kernel
theorem dX9_fewestOf_77 : decode cX9_fewestOf 77 = .ok (.iload_n 1, 1) := by decide +kernel
theorem dX9_fewestOf_78 : decode cX9_fewestOf 78 = .ok (.if_icmp .ne 14, 3) := by decide +kernel
theorem dX9_fewestOf_81 : decode cX9_fewestOf 81 = .ok (.aload_n 0, 1) := by decide +kernel
theorem dX9_fewestOf_82 : decode cX9_fewestOf 82 = .ok (.getfield 25, 3) := by decide +kernel
theorem dX9_fewestOf_85 : decode cX9_fewestOf 85 = .ok (.iconst 4, 1) := by decide +kernel
theorem dX9_fewestOf_86 : decode cX9_fewestOf 86 = .ok (.iload_n 2, 1) := by decide +kernel
theorem dX9_fewestOf_87 : decode cX9_fewestOf 87 = .ok (.imul, 1) := by decide +kernel
theorem dX9_fewestOf_88 : decode cX9_fewestOf 88 = .ok (.iaload, 1) := by decide +kernel
theorem dX9_fewestOf_89 : decode cX9_fewestOf 89 = .ok (.goto 4, 3) := by decide +kernel
theorem dX9_fewestOf_92 : decode cX9_fewestOf 92 = .ok (.iconst 0, 1) := by decide +kernel
theorem dX9_fewestOf_93 : decode cX9_fewestOf 93 = .ok (.isub, 1) := by decide +kernel
theorem dX9_fewestOf_94 : decode cX9_fewestOf 94 = .ok (.iastore, 1) := by decide +kernel
theorem dX9_fewestOf_95 : decode cX9_fewestOf 95 = .ok (.iinc 2 1, 3) := by decide +kernel
theorem dX9_fewestOf_98 : decode cX9_fewestOf 98 = .ok (.goto (-81), 3) := by decide +kernel
theorem dX9_fewestOf_101 : decode cX9_fewestOf 101 = .ok (.iinc 1 1, 3) := by decide +kernel
theorem dX9_fewestOf_104 : decode cX9_fewestOf 104 = .ok (.goto (-102), 3) := by decide +kernel
theorem dX9_fewestOf_107 : decode cX9_fewestOf 107 = .ok (.aload_n 0, 1) := by decide +kernel
theorem dX9_fewestOf_108 : decode cX9_fewestOf 108 = .ok (.getfield 38, 3) := by decide +kernel
theorem dX9_fewestOf_111 : decode cX9_fewestOf 111 = .ok (.iconst 0, 1) := by decide +kernel
theorem dX9_fewestOf_112 : decode cX9_fewestOf 112 = .ok (.iconst 0, 1) := by decide +kernel
theorem dX9_fewestOf_113 : decode cX9_fewestOf 113 = .ok (.iastore, 1) := by decide +kernel
theorem dX9_fewestOf_114 : decode cX9_fewestOf 114 = .ok (.iconst 1, 1) := by decide +kernel
theorem dX9_fewestOf_115 : decode cX9_fewestOf 115 = .ok (.istore_n 1, 1) := by decide +kernel
theorem dX9_fewestOf_116 : decode cX9_fewestOf 116 = .ok (.iload_n 1, 1) := by decide +kernel
theorem dX9_fewestOf_117 : decode cX9_fewestOf 117 = .ok (.sipush 256, 3) := by decide +kernel
theorem dX9_fewestOf_120 : decode cX9_fewestOf 120 = .ok (.if_icmp .ge 76, 3) := by decide +kernel
theorem dX9_fewestOf_123 : decode cX9_fewestOf 123 = .ok (.aload_n 0, 1) := by decide +kernel
theorem dX9_fewestOf_124 : decode cX9_fewestOf 124 = .ok (.getfield 38, 3) := by decide +kernel
theorem dX9_fewestOf_127 : decode cX9_fewestOf 127 = .ok (.iload_n 1, 1) := by decide +kernel
theorem dX9_fewestOf_128 : decode cX9_fewestOf 128 = .ok (.iconst (-1), 1) := by decide +kernel
theorem dX9_fewestOf_129 : decode cX9_fewestOf 129 = .ok (.iastore, 1) := by decide +kernel
theorem dX9_fewestOf_130 : decode cX9_fewestOf 130 = .ok (.iload_n 1, 1) := by decide +kernel
theorem dX9_fewestOf_131 : decode cX9_fewestOf 131 = .ok (.istore_n 2, 1) := by decide +kernel
theorem dX9_fewestOf_132 : decode cX9_fewestOf 132 = .ok (.iload_n 2, 1) := by decide +kernel
theorem dX9_fewestOf_133 : decode cX9_fewestOf 133 = .ok (.ifCond .le 57, 3) := by decide +kernel
theorem dX9_fewestOf_136 : decode cX9_fewestOf 136 = .ok (.aload_n 0, 1) := by decide +kernel
theorem dX9_fewestOf_137 : decode cX9_fewestOf 137 = .ok (.getfield 38, 3) := by decide +kernel
theorem dX9_fewestOf_140 : decode cX9_fewestOf 140 = .ok (.iload_n 1, 1) := by decide +kernel
theorem dX9_fewestOf_141 : decode cX9_fewestOf 141 = .ok (.iload_n 2, 1) := by decide +kernel
theorem dX9_fewestOf_142 : decode cX9_fewestOf 142 = .ok (.iconst (-1), 1) := by decide +kernel
theorem dX9_fewestOf_143 : decode cX9_fewestOf 143 = .ok (.ixor, 1) := by decide +kernel
theorem dX9_fewestOf_144 : decode cX9_fewestOf 144 = .ok (.iand, 1) := by decide +kernel
theorem dX9_fewestOf_145 : decode cX9_fewestOf 145 = .ok (.iaload, 1) := by decide +kernel
theorem dX9_fewestOf_146 : decode cX9_fewestOf 146 = .ok (.istore_n 3, 1) := by decide +kernel
theorem dX9_fewestOf_147 : decode cX9_fewestOf 147 = .ok (.iload_n 3, 1) := by decide +kernel
theorem dX9_fewestOf_148 : decode cX9_fewestOf 148 = .ok (.iconst (-1), 1) := by decide +kernel
theorem dX9_fewestOf_149 : decode cX9_fewestOf 149 = .ok (.if_icmp .eq 32, 3) := by decide +kernel
theorem dX9_fewestOf_152 : decode cX9_fewestOf 152 = .ok (.iload_n 3, 1) := by decide +kernel
theorem dX9_fewestOf_153 : decode cX9_fewestOf 153 = .ok (.iconst 1, 1) := by decide +kernel
theorem dX9_fewestOf_154 : decode cX9_fewestOf 154 = .ok (.iadd, 1) := by decide +kernel
theorem dX9_fewestOf_155 : decode cX9_fewestOf 155 = .ok (.aload_n 0, 1) := by decide +kernel
theorem dX9_fewestOf_156 : decode cX9_fewestOf 156 = .ok (.getfield 38, 3) := by decide +kernel
theorem dX9_fewestOf_159 : decode cX9_fewestOf 159 = .ok (.iload_n 1, 1) := by decide +kernel
theorem dX9_fewestOf_160 : decode cX9_fewestOf 160 = .ok (.iaload, 1) := by decide +kernel
theorem dX9_fewestOf_161 : decode cX9_fewestOf 161 = .ok (.if_icmp .le 20, 3) := by decide +kernel
theorem dX9_fewestOf_164 : decode cX9_fewestOf 164 = .ok (.aload_n 0, 1) := by decide +kernel
theorem dX9_fewestOf_165 : decode cX9_fewestOf 165 = .ok (.iload_n 2, 1) := by decide +kernel
theorem dX9_fewestOf_166 : decode cX9_fewestOf 166 = .ok (.invokevirtual 205, 3) := by decide +kernel
theorem dX9_fewestOf_169 : decode cX9_fewestOf 169 = .ok (.ifCond .ne 12, 3) := by decide +kernel
theorem dX9_fewestOf_172 : decode cX9_fewestOf 172 = .ok (.aload_n 0, 1) := by decide +kernel
theorem dX9_fewestOf_173 : decode cX9_fewestOf 173 = .ok (.getfield 38, 3) := by decide +kernel
theorem dX9_fewestOf_176 : decode cX9_fewestOf 176 = .ok (.iload_n 1, 1) := by decide +kernel
theorem dX9_fewestOf_177 : decode cX9_fewestOf 177 = .ok (.iload_n 3, 1) := by decide +kernel
theorem dX9_fewestOf_178 : decode cX9_fewestOf 178 = .ok (.iconst 1, 1) := by decide +kernel
theorem dX9_fewestOf_179 : decode cX9_fewestOf 179 = .ok (.iadd, 1) := by decide +kernel
theorem dX9_fewestOf_180 : decode cX9_fewestOf 180 = .ok (.iastore, 1) := by decide +kernel
theorem dX9_fewestOf_181 : decode cX9_fewestOf 181 = .ok (.iload_n 2, 1) := by decide +kernel
theorem dX9_fewestOf_182 : decode cX9_fewestOf 182 = .ok (.iconst 1, 1) := by decide +kernel
theorem dX9_fewestOf_183 : decode cX9_fewestOf 183 = .ok (.isub, 1) := by decide +kernel
theorem dX9_fewestOf_184 : decode cX9_fewestOf 184 = .ok (.iload_n 1, 1) := by decide +kernel
theorem dX9_fewestOf_185 : decode cX9_fewestOf 185 = .ok (.iand, 1) := by decide +kernel
theorem dX9_fewestOf_186 : decode cX9_fewestOf 186 = .ok (.istore_n 2, 1) := by decide +kernel
theorem dX9_fewestOf_187 : decode cX9_fewestOf 187 = .ok (.goto (-55), 3) := by decide +kernel
theorem dX9_fewestOf_190 : decode cX9_fewestOf 190 = .ok (.iinc 1 1, 3) := by decide +kernel
theorem dX9_fewestOf_193 : decode cX9_fewestOf 193 = .ok (.goto (-77), 3) := by decide +kernel
theorem dX9_fewestOf_196 : decode cX9_fewestOf 196 = .ok (.bipush 8, 2) := by decide +kernel
theorem dX9_fewestOf_198 : decode cX9_fewestOf 198 = .ok (.aload_n 0, 1) := by decide +kernel
theorem dX9_fewestOf_199 : decode cX9_fewestOf 199 = .ok (.getfield 38, 3) := by decide +kernel
theorem dX9_fewestOf_202 : decode cX9_fewestOf 202 = .ok (.sipush 255, 3) := by decide +kernel
theorem dX9_fewestOf_205 : decode cX9_fewestOf 205 = .ok (.iaload, 1) := by decide +kernel
theorem dX9_fewestOf_206 : decode cX9_fewestOf 206 = .ok (.isub, 1) := by decide +kernel
theorem dX9_fewestOf_207 : decode cX9_fewestOf 207 = .ok (.ireturn, 1) := by decide +kernel
theorem dX9_fewest_0 : decode cX9_fewest 0 = .ok (.aload_n 0, 1) := by decide +kernel
theorem dX9_fewest_1 : decode cX9_fewest 1 = .ok (.invokevirtual 208, 3) := by decide +kernel
theorem dX9_fewest_4 : decode cX9_fewest 4 = .ok (.ireturn, 1) := by decide +kernel
theorem dX9_draw_0 : decode cX9_draw 0 = .ok (.aload_n 0, 1) := by decide +kernel
theorem dX9_draw_1 : decode cX9_draw 1 = .ok (.ldc2_w 211, 3) := by decide +kernel
theorem dX9_draw_4 : decode cX9_draw 4 = .ok (.aload_n 0, 1) := by decide +kernel
theorem dX9_draw_5 : decode cX9_draw 5 = .ok (.getfield 213, 3) := by decide +kernel
theorem dX9_draw_8 : decode cX9_draw 8 = .ok (.i2l, 1) := by decide +kernel
theorem dX9_draw_9 : decode cX9_draw 9 = .ok (.lmul, 1) := by decide +kernel
theorem dX9_draw_10 : decode cX9_draw 10 = .ok (.ldc2_w 216, 3) := by decide +kernel
theorem dX9_draw_13 : decode cX9_draw 13 = .ok (.ladd, 1) := by decide +kernel
theorem dX9_draw_14 : decode cX9_draw 14 = .ok (.ldc2_w 218, 3) := by decide +kernel
theorem dX9_draw_17 : decode cX9_draw 17 = .ok (.land, 1) := by decide +kernel
theorem dX9_draw_18 : decode cX9_draw 18 = .ok (.l2i, 1) := by decide +kernel
theorem dX9_draw_19 : decode cX9_draw 19 = .ok (.putfield 213, 3) := by decide +kernel
theorem dX9_draw_22 : decode cX9_draw 22 = .ok (.aload_n 0, 1) := by decide +kernel
theorem dX9_draw_23 : decode cX9_draw 23 = .ok (.getfield 213, 3) := by decide +kernel
theorem dX9_draw_26 : decode cX9_draw 26 = .ok (.ldc 220, 2) := by decide +kernel
theorem dX9_draw_28 : decode cX9_draw 28 = .ok (.idiv, 1) := by decide +kernel
theorem dX9_draw_29 : decode cX9_draw 29 = .ok (.iload_n 1, 1) := by decide +kernel
theorem dX9_draw_30 : decode cX9_draw 30 = .ok (.irem, 1) := by decide +kernel
theorem dX9_draw_31 : decode cX9_draw 31 = .ok (.ireturn, 1) := by decide +kernel
theorem dX9_months_0 : decode cX9_months 0 = .ok (.iload_n 1, 1) := by decide +kernel
theorem dX9_months_1 : decode cX9_months 1 = .ok (.i2l, 1) := by decide +kernel
theorem dX9_months_2 : decode cX9_months 2 = .ok (.lconst 1, 1) := by decide +kernel
theorem dX9_months_3 : decode cX9_months 3 = .ok (.ldc2_w 163, 3) := by decide +kernel
theorem dX9_months_6 : decode cX9_months 6 = .ok (.invokestatic 70, 3) := by decide +kernel
theorem dX9_months_9 : decode cX9_months 9 = .ok (.ifCond .eq 19, 3) := by decide +kernel
theorem dX9_months_12 : decode cX9_months 12 = .ok (.iload_n 2, 1) := by decide +kernel
theorem dX9_months_13 : decode cX9_months 13 = .ok (.ifCond .lt 15, 3) := by decide +kernel
theorem dX9_months_16 : decode cX9_months 16 = .ok (.iload_n 3, 1) := by decide +kernel
theorem dX9_months_17 : decode cX9_months 17 = .ok (.i2l, 1) := by decide +kernel
theorem dX9_months_18 : decode cX9_months 18 = .ok (.lconst 0, 1) := by decide +kernel
theorem dX9_months_19 : decode cX9_months 19 = .ok (.ldc2_w 167, 3) := by decide +kernel
theorem dX9_months_22 : decode cX9_months 22 = .ok (.invokestatic 70, 3) := by decide +kernel
theorem dX9_months_25 : decode cX9_months 25 = .ok (.ifCond .ne 6, 3) := by decide +kernel
theorem dX9_months_28 : decode cX9_months 28 = .ok (.bipush (-102), 2) := by decide +kernel
theorem dX9_months_30 : decode cX9_months 30 = .ok (.ireturn, 1) := by decide +kernel
theorem dX9_months_31 : decode cX9_months 31 = .ok (.aload_n 0, 1) := by decide +kernel
theorem dX9_months_32 : decode cX9_months 32 = .ok (.invokevirtual 147, 3) := by decide +kernel
theorem dX9_months_35 : decode cX9_months 35 = .ok (.ifCond .eq 6, 3) := by decide +kernel
theorem dX9_months_38 : decode cX9_months 38 = .ok (.bipush (-103), 2) := by decide +kernel
theorem dX9_months_40 : decode cX9_months 40 = .ok (.ireturn, 1) := by decide +kernel
theorem dX9_months_41 : decode cX9_months 41 = .ok (.aload_n 0, 1) := by decide +kernel
theorem dX9_months_42 : decode cX9_months 42 = .ok (.invokevirtual 151, 3) := by decide +kernel
theorem dX9_months_45 : decode cX9_months 45 = .ok (.aload_n 0, 1) := by decide +kernel
theorem dX9_months_46 : decode cX9_months 46 = .ok (.iload_n 2, 1) := by decide +kernel
theorem dX9_months_47 : decode cX9_months 47 = .ok (.putfield 213, 3) := by decide +kernel
theorem dX9_months_50 : decode cX9_months 50 = .ok (.iconst 0, 1) := by decide +kernel
theorem dX9_months_51 : decode cX9_months 51 = .ok (.istore 4, 2) := by decide +kernel
theorem dX9_months_53 : decode cX9_months 53 = .ok (.iconst 0, 1) := by decide +kernel
theorem dX9_months_54 : decode cX9_months 54 = .ok (.istore 5, 2) := by decide +kernel
theorem dX9_months_56 : decode cX9_months 56 = .ok (.iload 5, 2) := by decide +kernel
theorem dX9_months_58 : decode cX9_months 58 = .ok (.iload_n 1, 1) := by decide +kernel
theorem dX9_months_59 : decode cX9_months 59 = .ok (.if_icmp .ge 78, 3) := by decide +kernel
theorem dX9_months_62 : decode cX9_months 62 = .ok (.iconst 0, 1) := by decide +kernel
theorem dX9_months_63 : decode cX9_months 63 = .ok (.istore 6, 2) := by decide +kernel
theorem dX9_months_65 : decode cX9_months 65 = .ok (.iconst 0, 1) := by decide +kernel
theorem dX9_months_66 : decode cX9_months 66 = .ok (.istore 7, 2) := by decide +kernel
theorem dX9_months_68 : decode cX9_months 68 = .ok (.iload 7, 2) := by decide +kernel
theorem dX9_months_70 : decode cX9_months 70 = .ok (.aload_n 0, 1) := by decide +kernel
theorem dX9_months_71 : decode cX9_months 71 = .ok (.getfield 91, 3) := by decide +kernel
theorem dX9_months_74 : decode cX9_months 74 = .ok (.if_icmp .ge 38, 3) := by decide +kernel
theorem dX9_months_77 : decode cX9_months 77 = .ok (.iload 6, 2) := by decide +kernel
theorem dX9_months_79 : decode cX9_months 79 = .ok (.aload_n 0, 1) := by decide +kernel
theorem dX9_months_80 : decode cX9_months 80 = .ok (.bipush 10, 2) := by decide +kernel
theorem dX9_months_82 : decode cX9_months 82 = .ok (.invokevirtual 221, 3) := by decide +kernel
theorem dX9_months_85 : decode cX9_months 85 = .ok (.aload_n 0, 1) := by decide +kernel
theorem dX9_months_86 : decode cX9_months 86 = .ok (.getfield 19, 3) := by decide +kernel
theorem dX9_months_89 : decode cX9_months 89 = .ok (.iload 7, 2) := by decide +kernel
theorem dX9_months_91 : decode cX9_months 91 = .ok (.iaload, 1) := by decide +kernel
theorem dX9_months_92 : decode cX9_months 92 = .ok (.if_icmp .ge 10, 3) := by decide +kernel
theorem dX9_months_95 : decode cX9_months 95 = .ok (.iconst 1, 1) := by decide +kernel
theorem dX9_months_96 : decode cX9_months 96 = .ok (.iload 7, 2) := by decide +kernel
theorem dX9_months_98 : decode cX9_months 98 = .ok (.ishl, 1) := by decide +kernel
theorem dX9_months_99 : decode cX9_months 99 = .ok (.goto 4, 3) := by decide +kernel
theorem dX9_months_102 : decode cX9_months 102 = .ok (.iconst 0, 1) := by decide +kernel
theorem dX9_months_103 : decode cX9_months 103 = .ok (.ior, 1) := by decide +kernel
theorem dX9_months_104 : decode cX9_months 104 = .ok (.istore 6, 2) := by decide +kernel
theorem dX9_months_106 : decode cX9_months 106 = .ok (.iinc 7 1, 3) := by decide +kernel
theorem dX9_months_109 : decode cX9_months 109 = .ok (.goto (-41), 3) := by decide +kernel
theorem dX9_months_112 : decode cX9_months 112 = .ok (.aload_n 0, 1) := by decide +kernel
theorem dX9_months_113 : decode cX9_months 113 = .ok (.iload 6, 2) := by decide +kernel
theorem dX9_months_115 : decode cX9_months 115 = .ok (.aload_n 0, 1) := by decide +kernel
theorem dX9_months_116 : decode cX9_months 116 = .ok (.getfield 94, 3) := by decide +kernel
theorem dX9_months_119 : decode cX9_months 119 = .ok (.invokevirtual 154, 3) := by decide +kernel
theorem dX9_months_122 : decode cX9_months 122 = .ok (.istore 7, 2) := by decide +kernel
theorem dX9_months_124 : decode cX9_months 124 = .ok (.iload 4, 2) := by decide +kernel
theorem dX9_months_126 : decode cX9_months 126 = .ok (.iload 7, 2) := by decide +kernel
theorem dX9_months_128 : decode cX9_months 128 = .ok (.iadd, 1) := by decide +kernel
theorem dX9_months_129 : decode cX9_months 129 = .ok (.istore 4, 2) := by decide +kernel
theorem dX9_months_131 : decode cX9_months 131 = .ok (.iinc 5 1, 3) := by decide +kernel
theorem dX9_months_134 : decode cX9_months 134 = .ok (.goto (-78), 3) := by decide +kernel
theorem dX9_months_137 : decode cX9_months 137 = .ok (.iconst 0, 1) := by decide +kernel
theorem dX9_months_138 : decode cX9_months 138 = .ok (.istore 5, 2) := by decide +kernel
theorem dX9_months_140 : decode cX9_months 140 = .ok (.iconst 0, 1) := by decide +kernel
theorem dX9_months_141 : decode cX9_months 141 = .ok (.istore 6, 2) := by decide +kernel
theorem dX9_months_143 : decode cX9_months 143 = .ok (.iload 6, 2) := by decide +kernel
theorem dX9_months_145 : decode cX9_months 145 = .ok (.aload_n 0, 1) := by decide +kernel
theorem dX9_months_146 : decode cX9_months 146 = .ok (.getfield 113, 3) := by decide +kernel
theorem dX9_months_149 : decode cX9_months 149 = .ok (.if_icmp .ge 48, 3) := by decide +kernel
theorem dX9_months_152 : decode cX9_months 152 = .ok (.iload 5, 2) := by decide +kernel
theorem dX9_months_154 : decode cX9_months 154 = .ok (.aload_n 0, 1) := by decide +kernel
theorem dX9_months_155 : decode cX9_months 155 = .ok (.getfield 28, 3) := by decide +kernel
theorem dX9_months_158 : decode cX9_months 158 = .ok (.iload 6, 2) := by decide +kernel
theorem dX9_months_160 : decode cX9_months 160 = .ok (.iaload, 1) := by decide +kernel
theorem dX9_months_161 : decode cX9_months 161 = .ok (.aload_n 0, 1) := by decide +kernel
theorem dX9_months_162 : decode cX9_months 162 = .ok (.getfield 25, 3) := by decide +kernel
theorem dX9_months_165 : decode cX9_months 165 = .ok (.iconst 4, 1) := by decide +kernel
theorem dX9_months_166 : decode cX9_months 166 = .ok (.iload 6, 2) := by decide +kernel
theorem dX9_months_168 : decode cX9_months 168 = .ok (.imul, 1) := by decide +kernel
theorem dX9_months_169 : decode cX9_months 169 = .ok (.iconst 1, 1) := by decide +kernel
theorem dX9_months_170 : decode cX9_months 170 = .ok (.iadd, 1) := by decide +kernel
theorem dX9_months_171 : decode cX9_months 171 = .ok (.iaload, 1) := by decide +kernel
theorem dX9_months_172 : decode cX9_months 172 = .ok (.if_icmp .ne 15, 3) := by decide +kernel
theorem dX9_months_175 : decode cX9_months 175 = .ok (.aload_n 0, 1) := by decide +kernel
theorem dX9_months_176 : decode cX9_months 176 = .ok (.getfield 25, 3) := by decide +kernel
theorem dX9_months_179 : decode cX9_months 179 = .ok (.iconst 4, 1) := by decide +kernel
theorem dX9_months_180 : decode cX9_months 180 = .ok (.iload 6, 2) := by decide +kernel
theorem dX9_months_182 : decode cX9_months 182 = .ok (.imul, 1) := by decide +kernel
theorem dX9_months_183 : decode cX9_months 183 = .ok (.iaload, 1) := by decide +kernel
theorem dX9_months_184 : decode cX9_months 184 = .ok (.goto 4, 3) := by decide +kernel
theorem dX9_months_187 : decode cX9_months 187 = .ok (.iconst 0, 1) := by decide +kernel
theorem dX9_months_188 : decode cX9_months 188 = .ok (.iadd, 1) := by decide +kernel
theorem dX9_months_189 : decode cX9_months 189 = .ok (.istore 5, 2) := by decide +kernel
theorem dX9_months_191 : decode cX9_months 191 = .ok (.iinc 6 1, 3) := by decide +kernel
theorem dX9_months_194 : decode cX9_months 194 = .ok (.goto (-51), 3) := by decide +kernel
theorem dX9_months_197 : decode cX9_months 197 = .ok (.iload_n 3, 1) := by decide +kernel
theorem dX9_months_198 : decode cX9_months 198 = .ok (.ifCond .ne 8, 3) := by decide +kernel
theorem dX9_months_201 : decode cX9_months 201 = .ok (.iload 5, 2) := by decide +kernel
theorem dX9_months_203 : decode cX9_months 203 = .ok (.goto 17, 3) := by decide +kernel
theorem dX9_months_206 : decode cX9_months 206 = .ok (.iload_n 3, 1) := by decide +kernel
theorem dX9_months_207 : decode cX9_months 207 = .ok (.iconst 1, 1) := by decide +kernel
theorem dX9_months_208 : decode cX9_months 208 = .ok (.if_icmp .ne 8, 3) := by decide +kernel
theorem dX9_months_211 : decode cX9_months 211 = .ok (.iload 4, 2) := by decide +kernel
theorem dX9_months_213 : decode cX9_months 213 = .ok (.goto 7, 3) := by decide +kernel
theorem dX9_months_216 : decode cX9_months 216 = .ok (.aload_n 0, 1) := by decide +kernel
theorem dX9_months_217 : decode cX9_months 217 = .ok (.getfield 213, 3) := by decide +kernel
theorem dX9_months_220 : decode cX9_months 220 = .ok (.ireturn, 1) := by decide +kernel
theorem dX9_copy_0 : decode cX9_copy 0 = .ok (.iconst 0, 1) := by decide +kernel
theorem dX9_copy_1 : decode cX9_copy 1 = .ok (.istore_n 2, 1) := by decide +kernel
theorem dX9_copy_2 : decode cX9_copy 2 = .ok (.iload_n 2, 1) := by decide +kernel
theorem dX9_copy_3 : decode cX9_copy 3 = .ok (.aload_n 0, 1) := by decide +kernel
theorem dX9_copy_4 : decode cX9_copy 4 = .ok (.arraylength, 1) := by decide +kernel
theorem dX9_copy_5 : decode cX9_copy 5 = .ok (.if_icmp .ge 15, 3) := by decide +kernel
theorem dX9_copy_8 : decode cX9_copy 8 = .ok (.aload_n 1, 1) := by decide +kernel
theorem dX9_copy_9 : decode cX9_copy 9 = .ok (.iload_n 2, 1) := by decide +kernel
theorem dX9_copy_10 : decode cX9_copy 10 = .ok (.aload_n 0, 1) := by decide +kernel
theorem dX9_copy_11 : decode cX9_copy 11 = .ok (.iload_n 2, 1) := by decide +kernel
theorem dX9_copy_12 : decode cX9_copy 12 = .ok (.iaload, 1) := by decide +kernel
theorem dX9_copy_13 : decode cX9_copy 13 = .ok (.iastore, 1) := by decide +kernel
theorem dX9_copy_14 : decode cX9_copy 14 = .ok (.iinc 2 1, 3) := by decide +kernel
theorem dX9_copy_17 : decode cX9_copy 17 = .ok (.goto (-15), 3) := by decide +kernel
theorem dX9_copy_20 : decode cX9_copy 20 = .ok (.return_, 1) := by decide +kernel
theorem dX9_image_0 : decode cX9_image 0 = .ok (.aload_n 0, 1) := by decide +kernel
theorem dX9_image_1 : decode cX9_image 1 = .ok (.getfield 22, 3) := by decide +kernel
theorem dX9_image_4 : decode cX9_image 4 = .ok (.aload_n 0, 1) := by decide +kernel
theorem dX9_image_5 : decode cX9_image 5 = .ok (.getfield 44, 3) := by decide +kernel
theorem dX9_image_8 : decode cX9_image 8 = .ok (.invokestatic 224, 3) := by decide +kernel
theorem dX9_image_11 : decode cX9_image 11 = .ok (.aload_n 0, 1) := by decide +kernel
theorem dX9_image_12 : decode cX9_image 12 = .ok (.getfield 19, 3) := by decide +kernel
theorem dX9_image_15 : decode cX9_image 15 = .ok (.aload_n 0, 1) := by decide +kernel
theorem dX9_image_16 : decode cX9_image 16 = .ok (.getfield 47, 3) := by decide +kernel
theorem dX9_image_19 : decode cX9_image 19 = .ok (.invokestatic 224, 3) := by decide +kernel
theorem dX9_image_22 : decode cX9_image 22 = .ok (.aload_n 0, 1) := by decide +kernel
theorem dX9_image_23 : decode cX9_image 23 = .ok (.getfield 25, 3) := by decide +kernel
theorem dX9_image_26 : decode cX9_image 26 = .ok (.aload_n 0, 1) := by decide +kernel
theorem dX9_image_27 : decode cX9_image 27 = .ok (.getfield 50, 3) := by decide +kernel
theorem dX9_image_30 : decode cX9_image 30 = .ok (.invokestatic 224, 3) := by decide +kernel
theorem dX9_image_33 : decode cX9_image 33 = .ok (.aload_n 0, 1) := by decide +kernel
theorem dX9_image_34 : decode cX9_image 34 = .ok (.aload_n 0, 1) := by decide +kernel
theorem dX9_image_35 : decode cX9_image 35 = .ok (.getfield 113, 3) := by decide +kernel
theorem dX9_image_38 : decode cX9_image 38 = .ok (.putfield 228, 3) := by decide +kernel
theorem dX9_image_41 : decode cX9_image 41 = .ok (.aload_n 0, 1) := by decide +kernel
theorem dX9_image_42 : decode cX9_image 42 = .ok (.aload_n 0, 1) := by decide +kernel
theorem dX9_image_43 : decode cX9_image 43 = .ok (.getfield 157, 3) := by decide +kernel
theorem dX9_image_46 : decode cX9_image 46 = .ok (.putfield 231, 3) := by decide +kernel
theorem dX9_image_49 : decode cX9_image 49 = .ok (.aload_n 0, 1) := by decide +kernel
theorem dX9_image_50 : decode cX9_image 50 = .ok (.aload_n 0, 1) := by decide +kernel
theorem dX9_image_51 : decode cX9_image 51 = .ok (.getfield 160, 3) := by decide +kernel
theorem dX9_image_54 : decode cX9_image 54 = .ok (.putfield 234, 3) := by decide +kernel
theorem dX9_image_57 : decode cX9_image 57 = .ok (.aload_n 0, 1) := by decide +kernel
theorem dX9_image_58 : decode cX9_image 58 = .ok (.aload_n 0, 1) := by decide +kernel
theorem dX9_image_59 : decode cX9_image 59 = .ok (.getfield 119, 3) := by decide +kernel
theorem dX9_image_62 : decode cX9_image 62 = .ok (.putfield 237, 3) := by decide +kernel
theorem dX9_image_65 : decode cX9_image 65 = .ok (.aload_n 0, 1) := by decide +kernel
theorem dX9_image_66 : decode cX9_image 66 = .ok (.aload_n 0, 1) := by decide +kernel
theorem dX9_image_67 : decode cX9_image 67 = .ok (.getfield 94, 3) := by decide +kernel
theorem dX9_image_70 : decode cX9_image 70 = .ok (.putfield 240, 3) := by decide +kernel
theorem dX9_image_73 : decode cX9_image 73 = .ok (.aload_n 0, 1) := by decide +kernel
theorem dX9_image_74 : decode cX9_image 74 = .ok (.aload_n 0, 1) := by decide +kernel
theorem dX9_image_75 : decode cX9_image 75 = .ok (.getfield 97, 3) := by decide +kernel
theorem dX9_image_78 : decode cX9_image 78 = .ok (.putfield 53, 3) := by decide +kernel
theorem dX9_image_81 : decode cX9_image 81 = .ok (.aload_n 0, 1) := by decide +kernel
theorem dX9_image_82 : decode cX9_image 82 = .ok (.getfield 113, 3) := by decide +kernel
theorem dX9_image_85 : decode cX9_image 85 = .ok (.ireturn, 1) := by decide +kernel
theorem dX9_restore_0 : decode cX9_restore 0 = .ok (.aload_n 0, 1) := by decide +kernel
theorem dX9_restore_1 : decode cX9_restore 1 = .ok (.getfield 53, 3) := by decide +kernel
theorem dX9_restore_4 : decode cX9_restore 4 = .ok (.aload_n 0, 1) := by decide +kernel
theorem dX9_restore_5 : decode cX9_restore 5 = .ok (.getfield 97, 3) := by decide +kernel
theorem dX9_restore_8 : decode cX9_restore 8 = .ok (.if_icmp .ne 14, 3) := by decide +kernel
theorem dX9_restore_11 : decode cX9_restore 11 = .ok (.aload_n 0, 1) := by decide +kernel
theorem dX9_restore_12 : decode cX9_restore 12 = .ok (.getfield 228, 3) := by decide +kernel
theorem dX9_restore_15 : decode cX9_restore 15 = .ok (.aload_n 0, 1) := by decide +kernel
theorem dX9_restore_16 : decode cX9_restore 16 = .ok (.getfield 113, 3) := by decide +kernel
theorem dX9_restore_19 : decode cX9_restore 19 = .ok (.if_icmp .eq 6, 3) := by decide +kernel
theorem dX9_restore_22 : decode cX9_restore 22 = .ok (.bipush (-103), 2) := by decide +kernel
theorem dX9_restore_24 : decode cX9_restore 24 = .ok (.ireturn, 1) := by decide +kernel
theorem dX9_restore_25 : decode cX9_restore 25 = .ok (.aload_n 0, 1) := by decide +kernel
theorem dX9_restore_26 : decode cX9_restore 26 = .ok (.getfield 44, 3) := by decide +kernel
theorem dX9_restore_29 : decode cX9_restore 29 = .ok (.aload_n 0, 1) := by decide +kernel
theorem dX9_restore_30 : decode cX9_restore 30 = .ok (.getfield 22, 3) := by decide +kernel
theorem dX9_restore_33 : decode cX9_restore 33 = .ok (.invokestatic 224, 3) := by decide +kernel
theorem dX9_restore_36 : decode cX9_restore 36 = .ok (.aload_n 0, 1) := by decide +kernel
theorem dX9_restore_37 : decode cX9_restore 37 = .ok (.getfield 47, 3) := by decide +kernel
theorem dX9_restore_40 : decode cX9_restore 40 = .ok (.aload_n 0, 1) := by decide +kernel
theorem dX9_restore_41 : decode cX9_restore 41 = .ok (.getfield 19, 3) := by decide +kernel
theorem dX9_restore_44 : decode cX9_restore 44 = .ok (.invokestatic 224, 3) := by decide +kernel
theorem dX9_restore_47 : decode cX9_restore 47 = .ok (.aload_n 0, 1) := by decide +kernel
theorem dX9_restore_48 : decode cX9_restore 48 = .ok (.getfield 50, 3) := by decide +kernel
theorem dX9_restore_51 : decode cX9_restore 51 = .ok (.aload_n 0, 1) := by decide +kernel
theorem dX9_restore_52 : decode cX9_restore 52 = .ok (.getfield 25, 3) := by decide +kernel
theorem dX9_restore_55 : decode cX9_restore 55 = .ok (.invokestatic 224, 3) := by decide +kernel
theorem dX9_restore_58 : decode cX9_restore 58 = .ok (.aload_n 0, 1) := by decide +kernel
theorem dX9_restore_59 : decode cX9_restore 59 = .ok (.aload_n 0, 1) := by decide +kernel
theorem dX9_restore_60 : decode cX9_restore 60 = .ok (.getfield 231, 3) := by decide +kernel
theorem dX9_restore_63 : decode cX9_restore 63 = .ok (.putfield 157, 3) := by decide +kernel
theorem dX9_restore_66 : decode cX9_restore 66 = .ok (.aload_n 0, 1) := by decide +kernel
theorem dX9_restore_67 : decode cX9_restore 67 = .ok (.aload_n 0, 1) := by decide +kernel
theorem dX9_restore_68 : decode cX9_restore 68 = .ok (.getfield 234, 3) := by decide +kernel
theorem dX9_restore_71 : decode cX9_restore 71 = .ok (.putfield 160, 3) := by decide +kernel
theorem dX9_restore_74 : decode cX9_restore 74 = .ok (.aload_n 0, 1) := by decide +kernel
theorem dX9_restore_75 : decode cX9_restore 75 = .ok (.aload_n 0, 1) := by decide +kernel
theorem dX9_restore_76 : decode cX9_restore 76 = .ok (.getfield 237, 3) := by decide +kernel
theorem dX9_restore_79 : decode cX9_restore 79 = .ok (.putfield 119, 3) := by decide +kernel
theorem dX9_restore_82 : decode cX9_restore 82 = .ok (.aload_n 0, 1) := by decide +kernel
theorem dX9_restore_83 : decode cX9_restore 83 = .ok (.aload_n 0, 1) := by decide +kernel
theorem dX9_restore_84 : decode cX9_restore 84 = .ok (.getfield 240, 3) := by decide +kernel
theorem dX9_restore_87 : decode cX9_restore 87 = .ok (.putfield 94, 3) := by decide +kernel
theorem dX9_restore_90 : decode cX9_restore 90 = .ok (.aload_n 0, 1) := by decide +kernel
theorem dX9_restore_91 : decode cX9_restore 91 = .ok (.getfield 113, 3) := by decide +kernel
theorem dX9_restore_94 : decode cX9_restore 94 = .ok (.ireturn, 1) := by decide +kernel
theorem dX9_countOf_0 : decode cX9_countOf 0 = .ok (.iconst 0, 1) := by decide +kernel
theorem dX9_countOf_1 : decode cX9_countOf 1 = .ok (.istore_n 2, 1) := by decide +kernel
theorem dX9_countOf_2 : decode cX9_countOf 2 = .ok (.iconst 0, 1) := by decide +kernel
theorem dX9_countOf_3 : decode cX9_countOf 3 = .ok (.istore_n 3, 1) := by decide +kernel
theorem dX9_countOf_4 : decode cX9_countOf 4 = .ok (.iload_n 3, 1) := by decide +kernel
theorem dX9_countOf_5 : decode cX9_countOf 5 = .ok (.aload_n 0, 1) := by decide +kernel
theorem dX9_countOf_6 : decode cX9_countOf 6 = .ok (.getfield 113, 3) := by decide +kernel
theorem dX9_countOf_9 : decode cX9_countOf 9 = .ok (.if_icmp .ge 40, 3) := by decide +kernel
theorem dX9_countOf_12 : decode cX9_countOf 12 = .ok (.iload_n 2, 1) := by decide +kernel
theorem dX9_countOf_13 : decode cX9_countOf 13 = .ok (.aload_n 0, 1) := by decide +kernel
theorem dX9_countOf_14 : decode cX9_countOf 14 = .ok (.getfield 25, 3) := by decide +kernel
theorem dX9_countOf_17 : decode cX9_countOf 17 = .ok (.iconst 4, 1) := by decide +kernel
theorem dX9_countOf_18 : decode cX9_countOf 18 = .ok (.iload_n 3, 1) := by decide +kernel
theorem dX9_countOf_19 : decode cX9_countOf 19 = .ok (.imul, 1) := by decide +kernel
theorem dX9_countOf_20 : decode cX9_countOf 20 = .ok (.iconst 1, 1) := by decide +kernel
theorem dX9_countOf_21 : decode cX9_countOf 21 = .ok (.iadd, 1) := by decide +kernel
theorem dX9_countOf_22 : decode cX9_countOf 22 = .ok (.iaload, 1) := by decide +kernel
theorem dX9_countOf_23 : decode cX9_countOf 23 = .ok (.aload_n 0, 1) := by decide +kernel
theorem dX9_countOf_24 : decode cX9_countOf 24 = .ok (.getfield 25, 3) := by decide +kernel
theorem dX9_countOf_27 : decode cX9_countOf 27 = .ok (.iconst 4, 1) := by decide +kernel
theorem dX9_countOf_28 : decode cX9_countOf 28 = .ok (.iload_n 3, 1) := by decide +kernel
theorem dX9_countOf_29 : decode cX9_countOf 29 = .ok (.imul, 1) := by decide +kernel
theorem dX9_countOf_30 : decode cX9_countOf 30 = .ok (.iconst 2, 1) := by decide +kernel
theorem dX9_countOf_31 : decode cX9_countOf 31 = .ok (.iadd, 1) := by decide +kernel
theorem dX9_countOf_32 : decode cX9_countOf 32 = .ok (.iaload, 1) := by decide +kernel
theorem dX9_countOf_33 : decode cX9_countOf 33 = .ok (.if_icmp .ne 7, 3) := by decide +kernel
theorem dX9_countOf_36 : decode cX9_countOf 36 = .ok (.iconst 0, 1) := by decide +kernel
theorem dX9_countOf_37 : decode cX9_countOf 37 = .ok (.goto 4, 3) := by decide +kernel
theorem dX9_countOf_40 : decode cX9_countOf 40 = .ok (.iconst 1, 1) := by decide +kernel
theorem dX9_countOf_41 : decode cX9_countOf 41 = .ok (.iadd, 1) := by decide +kernel
theorem dX9_countOf_42 : decode cX9_countOf 42 = .ok (.istore_n 2, 1) := by decide +kernel
theorem dX9_countOf_43 : decode cX9_countOf 43 = .ok (.iinc 3 1, 3) := by decide +kernel
theorem dX9_countOf_46 : decode cX9_countOf 46 = .ok (.goto (-42), 3) := by decide +kernel
theorem dX9_countOf_49 : decode cX9_countOf 49 = .ok (.iload_n 1, 1) := by decide +kernel
theorem dX9_countOf_50 : decode cX9_countOf 50 = .ok (.tableswitch 74 0 6 #[42, 47, 52, 57, 62, 67, 69], 42) := by decide +kernel
theorem dX9_countOf_92 : decode cX9_countOf 92 = .ok (.aload_n 0, 1) := by decide +kernel
theorem dX9_countOf_93 : decode cX9_countOf 93 = .ok (.getfield 91, 3) := by decide +kernel
theorem dX9_countOf_96 : decode cX9_countOf 96 = .ok (.ireturn, 1) := by decide +kernel
theorem dX9_countOf_97 : decode cX9_countOf 97 = .ok (.aload_n 0, 1) := by decide +kernel
theorem dX9_countOf_98 : decode cX9_countOf 98 = .ok (.getfield 113, 3) := by decide +kernel
theorem dX9_countOf_101 : decode cX9_countOf 101 = .ok (.ireturn, 1) := by decide +kernel
theorem dX9_countOf_102 : decode cX9_countOf 102 = .ok (.aload_n 0, 1) := by decide +kernel
theorem dX9_countOf_103 : decode cX9_countOf 103 = .ok (.getfield 157, 3) := by decide +kernel
theorem dX9_countOf_106 : decode cX9_countOf 106 = .ok (.ireturn, 1) := by decide +kernel
theorem dX9_countOf_107 : decode cX9_countOf 107 = .ok (.aload_n 0, 1) := by decide +kernel
theorem dX9_countOf_108 : decode cX9_countOf 108 = .ok (.getfield 160, 3) := by decide +kernel
theorem dX9_countOf_111 : decode cX9_countOf 111 = .ok (.ireturn, 1) := by decide +kernel
theorem dX9_countOf_112 : decode cX9_countOf 112 = .ok (.aload_n 0, 1) := by decide +kernel
theorem dX9_countOf_113 : decode cX9_countOf 113 = .ok (.getfield 59, 3) := by decide +kernel
theorem dX9_countOf_116 : decode cX9_countOf 116 = .ok (.ireturn, 1) := by decide +kernel
theorem dX9_countOf_117 : decode cX9_countOf 117 = .ok (.iload_n 2, 1) := by decide +kernel
theorem dX9_countOf_118 : decode cX9_countOf 118 = .ok (.ireturn, 1) := by decide +kernel
theorem dX9_countOf_119 : decode cX9_countOf 119 = .ok (.aload_n 0, 1) := by decide +kernel
theorem dX9_countOf_120 : decode cX9_countOf 120 = .ok (.getfield 97, 3) := by decide +kernel
theorem dX9_countOf_123 : decode cX9_countOf 123 = .ok (.ireturn, 1) := by decide +kernel
theorem dX9_countOf_124 : decode cX9_countOf 124 = .ok (.bipush (-102), 2) := by decide +kernel
theorem dX9_countOf_126 : decode cX9_countOf 126 = .ok (.ireturn, 1) := by decide +kernel
theorem dX9_count_0 : decode cX9_count 0 = .ok (.aload_n 0, 1) := by decide +kernel
theorem dX9_count_1 : decode cX9_count 1 = .ok (.iload_n 1, 1) := by decide +kernel
theorem dX9_count_2 : decode cX9_count 2 = .ok (.invokevirtual 243, 3) := by decide +kernel
theorem dX9_count_5 : decode cX9_count 5 = .ok (.ireturn, 1) := by decide +kernel
theorem dX9_say_0 : decode cX9_say 0 = .ok (.aload_n 0, 1) := by decide +kernel
theorem dX9_say_1 : decode cX9_say 1 = .ok (.ldc2_w 246, 3) := by decide +kernel
theorem dX9_say_4 : decode cX9_say 4 = .ok (.aload_n 0, 1) := by decide +kernel
theorem dX9_say_5 : decode cX9_say 5 = .ok (.getfield 248, 3) := by decide +kernel
theorem dX9_say_8 : decode cX9_say 8 = .ok (.lmul, 1) := by decide +kernel
theorem dX9_say_9 : decode cX9_say 9 = .ok (.lload_n 1, 1) := by decide +kernel
theorem dX9_say_10 : decode cX9_say 10 = .ok (.ladd, 1) := by decide +kernel
theorem dX9_say_11 : decode cX9_say 11 = .ok (.putfield 248, 3) := by decide +kernel
theorem dX9_say_14 : decode cX9_say 14 = .ok (.return_, 1) := by decide +kernel
theorem dX9_digest_0 : decode cX9_digest 0 = .ok (.aload_n 0, 1) := by decide +kernel
theorem dX9_digest_1 : decode cX9_digest 1 = .ok (.ldc2_w 252, 3) := by decide +kernel
theorem dX9_digest_4 : decode cX9_digest 4 = .ok (.putfield 248, 3) := by decide +kernel
theorem dX9_digest_7 : decode cX9_digest 7 = .ok (.iconst 0, 1) := by decide +kernel
theorem dX9_digest_8 : decode cX9_digest 8 = .ok (.istore_n 1, 1) := by decide +kernel
theorem dX9_digest_9 : decode cX9_digest 9 = .ok (.iload_n 1, 1) := by decide +kernel
theorem dX9_digest_10 : decode cX9_digest 10 = .ok (.aload_n 0, 1) := by decide +kernel
theorem dX9_digest_11 : decode cX9_digest 11 = .ok (.getfield 91, 3) := by decide +kernel
theorem dX9_digest_14 : decode cX9_digest 14 = .ok (.if_icmp .ge 34, 3) := by decide +kernel
theorem dX9_digest_17 : decode cX9_digest 17 = .ok (.iconst 0, 1) := by decide +kernel
theorem dX9_digest_18 : decode cX9_digest 18 = .ok (.istore_n 2, 1) := by decide +kernel
theorem dX9_digest_19 : decode cX9_digest 19 = .ok (.iload_n 2, 1) := by decide +kernel
theorem dX9_digest_20 : decode cX9_digest 20 = .ok (.bipush 6, 2) := by decide +kernel
theorem dX9_digest_22 : decode cX9_digest 22 = .ok (.if_icmp .ge 20, 3) := by decide +kernel
theorem dX9_digest_25 : decode cX9_digest 25 = .ok (.aload_n 0, 1) := by decide +kernel
theorem dX9_digest_26 : decode cX9_digest 26 = .ok (.aload_n 0, 1) := by decide +kernel
theorem dX9_digest_27 : decode cX9_digest 27 = .ok (.iload_n 1, 1) := by decide +kernel
theorem dX9_digest_28 : decode cX9_digest 28 = .ok (.iload_n 2, 1) := by decide +kernel
theorem dX9_digest_29 : decode cX9_digest 29 = .ok (.invokevirtual 105, 3) := by decide +kernel
theorem dX9_digest_32 : decode cX9_digest 32 = .ok (.i2l, 1) := by decide +kernel
theorem dX9_digest_33 : decode cX9_digest 33 = .ok (.invokevirtual 254, 3) := by decide +kernel
theorem dX9_digest_36 : decode cX9_digest 36 = .ok (.iinc 2 1, 3) := by decide +kernel
theorem dX9_digest_39 : decode cX9_digest 39 = .ok (.goto (-20), 3) := by decide +kernel
theorem dX9_digest_42 : decode cX9_digest 42 = .ok (.iinc 1 1, 3) := by decide +kernel
theorem dX9_digest_45 : decode cX9_digest 45 = .ok (.goto (-36), 3) := by decide +kernel
theorem dX9_digest_48 : decode cX9_digest 48 = .ok (.iconst 0, 1) := by decide +kernel
theorem dX9_digest_49 : decode cX9_digest 49 = .ok (.istore_n 1, 1) := by decide +kernel
theorem dX9_digest_50 : decode cX9_digest 50 = .ok (.iload_n 1, 1) := by decide +kernel
theorem dX9_digest_51 : decode cX9_digest 51 = .ok (.bipush 8, 2) := by decide +kernel
theorem dX9_digest_53 : decode cX9_digest 53 = .ok (.if_icmp .ge 43, 3) := by decide +kernel
theorem dX9_digest_56 : decode cX9_digest 56 = .ok (.aload_n 0, 1) := by decide +kernel
theorem dX9_digest_57 : decode cX9_digest 57 = .ok (.aload_n 0, 1) := by decide +kernel
theorem dX9_digest_58 : decode cX9_digest 58 = .ok (.getfield 22, 3) := by decide +kernel
theorem dX9_digest_61 : decode cX9_digest 61 = .ok (.iload_n 1, 1) := by decide +kernel
theorem dX9_digest_62 : decode cX9_digest 62 = .ok (.iaload, 1) := by decide +kernel
theorem dX9_digest_63 : decode cX9_digest 63 = .ok (.i2l, 1) := by decide +kernel
theorem dX9_digest_64 : decode cX9_digest 64 = .ok (.invokevirtual 254, 3) := by decide +kernel
theorem dX9_digest_67 : decode cX9_digest 67 = .ok (.aload_n 0, 1) := by decide +kernel
theorem dX9_digest_68 : decode cX9_digest 68 = .ok (.aload_n 0, 1) := by decide +kernel
theorem dX9_digest_69 : decode cX9_digest 69 = .ok (.getfield 119, 3) := by decide +kernel
theorem dX9_digest_72 : decode cX9_digest 72 = .ok (.iload_n 1, 1) := by decide +kernel
theorem dX9_digest_73 : decode cX9_digest 73 = .ok (.ishr, 1) := by decide +kernel
theorem dX9_digest_74 : decode cX9_digest 74 = .ok (.iconst 1, 1) := by decide +kernel
theorem dX9_digest_75 : decode cX9_digest 75 = .ok (.iand, 1) := by decide +kernel
theorem dX9_digest_76 : decode cX9_digest 76 = .ok (.i2l, 1) := by decide +kernel
theorem dX9_digest_77 : decode cX9_digest 77 = .ok (.invokevirtual 254, 3) := by decide +kernel
theorem dX9_digest_80 : decode cX9_digest 80 = .ok (.aload_n 0, 1) := by decide +kernel
theorem dX9_digest_81 : decode cX9_digest 81 = .ok (.aload_n 0, 1) := by decide +kernel
theorem dX9_digest_82 : decode cX9_digest 82 = .ok (.iload_n 1, 1) := by decide +kernel
theorem dX9_digest_83 : decode cX9_digest 83 = .ok (.invokevirtual 127, 3) := by decide +kernel
theorem dX9_digest_86 : decode cX9_digest 86 = .ok (.i2l, 1) := by decide +kernel
theorem dX9_digest_87 : decode cX9_digest 87 = .ok (.invokevirtual 254, 3) := by decide +kernel
theorem dX9_digest_90 : decode cX9_digest 90 = .ok (.iinc 1 1, 3) := by decide +kernel
theorem dX9_digest_93 : decode cX9_digest 93 = .ok (.goto (-43), 3) := by decide +kernel
theorem dX9_digest_96 : decode cX9_digest 96 = .ok (.iconst 0, 1) := by decide +kernel
theorem dX9_digest_97 : decode cX9_digest 97 = .ok (.istore_n 1, 1) := by decide +kernel
theorem dX9_digest_98 : decode cX9_digest 98 = .ok (.iload_n 1, 1) := by decide +kernel
theorem dX9_digest_99 : decode cX9_digest 99 = .ok (.iconst 4, 1) := by decide +kernel
theorem dX9_digest_100 : decode cX9_digest 100 = .ok (.aload_n 0, 1) := by decide +kernel
theorem dX9_digest_101 : decode cX9_digest 101 = .ok (.getfield 113, 3) := by decide +kernel
theorem dX9_digest_104 : decode cX9_digest 104 = .ok (.imul, 1) := by decide +kernel
theorem dX9_digest_105 : decode cX9_digest 105 = .ok (.if_icmp .ge 20, 3) := by decide +kernel
theorem dX9_digest_108 : decode cX9_digest 108 = .ok (.aload_n 0, 1) := by decide +kernel
theorem dX9_digest_109 : decode cX9_digest 109 = .ok (.aload_n 0, 1) := by decide +kernel
theorem dX9_digest_110 : decode cX9_digest 110 = .ok (.getfield 25, 3) := by decide +kernel
theorem dX9_digest_113 : decode cX9_digest 113 = .ok (.iload_n 1, 1) := by decide +kernel
theorem dX9_digest_114 : decode cX9_digest 114 = .ok (.iaload, 1) := by decide +kernel
theorem dX9_digest_115 : decode cX9_digest 115 = .ok (.i2l, 1) := by decide +kernel
theorem dX9_digest_116 : decode cX9_digest 116 = .ok (.invokevirtual 254, 3) := by decide +kernel
theorem dX9_digest_119 : decode cX9_digest 119 = .ok (.iinc 1 1, 3) := by decide +kernel
theorem dX9_digest_122 : decode cX9_digest 122 = .ok (.goto (-24), 3) := by decide +kernel
theorem dX9_digest_125 : decode cX9_digest 125 = .ok (.aload_n 0, 1) := by decide +kernel
theorem dX9_digest_126 : decode cX9_digest 126 = .ok (.aload_n 0, 1) := by decide +kernel
theorem dX9_digest_127 : decode cX9_digest 127 = .ok (.invokevirtual 208, 3) := by decide +kernel
theorem dX9_digest_130 : decode cX9_digest 130 = .ok (.i2l, 1) := by decide +kernel
theorem dX9_digest_131 : decode cX9_digest 131 = .ok (.invokevirtual 254, 3) := by decide +kernel
theorem dX9_digest_134 : decode cX9_digest 134 = .ok (.aload_n 0, 1) := by decide +kernel
theorem dX9_digest_135 : decode cX9_digest 135 = .ok (.invokevirtual 147, 3) := by decide +kernel
theorem dX9_digest_138 : decode cX9_digest 138 = .ok (.ifCond .ne 59, 3) := by decide +kernel
theorem dX9_digest_141 : decode cX9_digest 141 = .ok (.aload_n 0, 1) := by decide +kernel
theorem dX9_digest_142 : decode cX9_digest 142 = .ok (.aload_n 0, 1) := by decide +kernel
theorem dX9_digest_143 : decode cX9_digest 143 = .ok (.invokevirtual 193, 3) := by decide +kernel
theorem dX9_digest_146 : decode cX9_digest 146 = .ok (.i2l, 1) := by decide +kernel
theorem dX9_digest_147 : decode cX9_digest 147 = .ok (.invokevirtual 254, 3) := by decide +kernel
theorem dX9_digest_150 : decode cX9_digest 150 = .ok (.aload_n 0, 1) := by decide +kernel
theorem dX9_digest_151 : decode cX9_digest 151 = .ok (.aload_n 0, 1) := by decide +kernel
theorem dX9_digest_152 : decode cX9_digest 152 = .ok (.invokevirtual 199, 3) := by decide +kernel
theorem dX9_digest_155 : decode cX9_digest 155 = .ok (.i2l, 1) := by decide +kernel
theorem dX9_digest_156 : decode cX9_digest 156 = .ok (.invokevirtual 254, 3) := by decide +kernel
theorem dX9_digest_159 : decode cX9_digest 159 = .ok (.iconst 0, 1) := by decide +kernel
theorem dX9_digest_160 : decode cX9_digest 160 = .ok (.istore_n 1, 1) := by decide +kernel
theorem dX9_digest_161 : decode cX9_digest 161 = .ok (.iload_n 1, 1) := by decide +kernel
theorem dX9_digest_162 : decode cX9_digest 162 = .ok (.bipush 8, 2) := by decide +kernel
theorem dX9_digest_164 : decode cX9_digest 164 = .ok (.if_icmp .ge 33, 3) := by decide +kernel
theorem dX9_digest_167 : decode cX9_digest 167 = .ok (.aload_n 0, 1) := by decide +kernel
theorem dX9_digest_168 : decode cX9_digest 168 = .ok (.aload_n 0, 1) := by decide +kernel
theorem dX9_digest_169 : decode cX9_digest 169 = .ok (.iload_n 1, 1) := by decide +kernel
theorem dX9_digest_170 : decode cX9_digest 170 = .ok (.iconst 3, 1) := by decide +kernel
theorem dX9_digest_171 : decode cX9_digest 171 = .ok (.iconst 0, 1) := by decide +kernel
theorem dX9_digest_172 : decode cX9_digest 172 = .ok (.invokevirtual 189, 3) := by decide +kernel
theorem dX9_digest_175 : decode cX9_digest 175 = .ok (.i2l, 1) := by decide +kernel
theorem dX9_digest_176 : decode cX9_digest 176 = .ok (.invokevirtual 254, 3) := by decide +kernel
theorem dX9_digest_179 : decode cX9_digest 179 = .ok (.aload_n 0, 1) := by decide +kernel
theorem dX9_digest_180 : decode cX9_digest 180 = .ok (.aload_n 0, 1) := by decide +kernel
theorem dX9_digest_181 : decode cX9_digest 181 = .ok (.iload_n 1, 1) := by decide +kernel
theorem dX9_digest_182 : decode cX9_digest 182 = .ok (.iconst 3, 1) := by decide +kernel
theorem dX9_digest_183 : decode cX9_digest 183 = .ok (.iconst 1, 1) := by decide +kernel
theorem dX9_digest_184 : decode cX9_digest 184 = .ok (.invokevirtual 189, 3) := by decide +kernel
theorem dX9_digest_187 : decode cX9_digest 187 = .ok (.i2l, 1) := by decide +kernel
theorem dX9_digest_188 : decode cX9_digest 188 = .ok (.invokevirtual 254, 3) := by decide +kernel
theorem dX9_digest_191 : decode cX9_digest 191 = .ok (.iinc 1 1, 3) := by decide +kernel
theorem dX9_digest_194 : decode cX9_digest 194 = .ok (.goto (-33), 3) := by decide +kernel
theorem dX9_digest_197 : decode cX9_digest 197 = .ok (.iconst 0, 1) := by decide +kernel
theorem dX9_digest_198 : decode cX9_digest 198 = .ok (.istore_n 1, 1) := by decide +kernel
theorem dX9_digest_199 : decode cX9_digest 199 = .ok (.iload_n 1, 1) := by decide +kernel
theorem dX9_digest_200 : decode cX9_digest 200 = .ok (.aload_n 0, 1) := by decide +kernel
theorem dX9_digest_201 : decode cX9_digest 201 = .ok (.getfield 59, 3) := by decide +kernel
theorem dX9_digest_204 : decode cX9_digest 204 = .ok (.if_icmp .ge 20, 3) := by decide +kernel
theorem dX9_digest_207 : decode cX9_digest 207 = .ok (.aload_n 0, 1) := by decide +kernel
theorem dX9_digest_208 : decode cX9_digest 208 = .ok (.aload_n 0, 1) := by decide +kernel
theorem dX9_digest_209 : decode cX9_digest 209 = .ok (.getfield 7, 3) := by decide +kernel
theorem dX9_digest_212 : decode cX9_digest 212 = .ok (.iload_n 1, 1) := by decide +kernel
theorem dX9_digest_213 : decode cX9_digest 213 = .ok (.iaload, 1) := by decide +kernel
theorem dX9_digest_214 : decode cX9_digest 214 = .ok (.i2l, 1) := by decide +kernel
theorem dX9_digest_215 : decode cX9_digest 215 = .ok (.invokevirtual 254, 3) := by decide +kernel
theorem dX9_digest_218 : decode cX9_digest 218 = .ok (.iinc 1 1, 3) := by decide +kernel
theorem dX9_digest_221 : decode cX9_digest 221 = .ok (.goto (-22), 3) := by decide +kernel
theorem dX9_digest_224 : decode cX9_digest 224 = .ok (.iconst 0, 1) := by decide +kernel
theorem dX9_digest_225 : decode cX9_digest 225 = .ok (.istore_n 1, 1) := by decide +kernel
theorem dX9_digest_226 : decode cX9_digest 226 = .ok (.iload_n 1, 1) := by decide +kernel
theorem dX9_digest_227 : decode cX9_digest 227 = .ok (.bipush 7, 2) := by decide +kernel
theorem dX9_digest_229 : decode cX9_digest 229 = .ok (.if_icmp .ge 19, 3) := by decide +kernel
theorem dX9_digest_232 : decode cX9_digest 232 = .ok (.aload_n 0, 1) := by decide +kernel
theorem dX9_digest_233 : decode cX9_digest 233 = .ok (.aload_n 0, 1) := by decide +kernel
theorem dX9_digest_234 : decode cX9_digest 234 = .ok (.iload_n 1, 1) := by decide +kernel
theorem dX9_digest_235 : decode cX9_digest 235 = .ok (.invokevirtual 243, 3) := by decide +kernel
theorem dX9_digest_238 : decode cX9_digest 238 = .ok (.i2l, 1) := by decide +kernel
theorem dX9_digest_239 : decode cX9_digest 239 = .ok (.invokevirtual 254, 3) := by decide +kernel
theorem dX9_digest_242 : decode cX9_digest 242 = .ok (.iinc 1 1, 3) := by decide +kernel
theorem dX9_digest_245 : decode cX9_digest 245 = .ok (.goto (-19), 3) := by decide +kernel
theorem dX9_digest_248 : decode cX9_digest 248 = .ok (.aload_n 0, 1) := by decide +kernel
theorem dX9_digest_249 : decode cX9_digest 249 = .ok (.getfield 248, 3) := by decide +kernel
theorem dX9_digest_252 : decode cX9_digest 252 = .ok (.lreturn, 1) := by decide +kernel
theorem dJ6_numberOfTrailingZeros_0f7a4_0 : decode cJ6_numberOfTrailingZeros_0f7a4 0 = .ok (.iload_n 0, 1) := by decide +kernel
theorem dJ6_numberOfTrailingZeros_0f7a4_1 : decode cJ6_numberOfTrailingZeros_0f7a4 1 = .ok (.iconst (-1), 1) := by decide +kernel
theorem dJ6_numberOfTrailingZeros_0f7a4_2 : decode cJ6_numberOfTrailingZeros_0f7a4 2 = .ok (.ixor, 1) := by decide +kernel
theorem dJ6_numberOfTrailingZeros_0f7a4_3 : decode cJ6_numberOfTrailingZeros_0f7a4 3 = .ok (.iload_n 0, 1) := by decide +kernel
theorem dJ6_numberOfTrailingZeros_0f7a4_4 : decode cJ6_numberOfTrailingZeros_0f7a4 4 = .ok (.iconst 1, 1) := by decide +kernel
theorem dJ6_numberOfTrailingZeros_0f7a4_5 : decode cJ6_numberOfTrailingZeros_0f7a4 5 = .ok (.isub, 1) := by decide +kernel
theorem dJ6_numberOfTrailingZeros_0f7a4_6 : decode cJ6_numberOfTrailingZeros_0f7a4 6 = .ok (.iand, 1) := by decide +kernel
theorem dJ6_numberOfTrailingZeros_0f7a4_7 : decode cJ6_numberOfTrailingZeros_0f7a4 7 = .ok (.istore_n 0, 1) := by decide +kernel
theorem dJ6_numberOfTrailingZeros_0f7a4_8 : decode cJ6_numberOfTrailingZeros_0f7a4 8 = .ok (.iload_n 0, 1) := by decide +kernel
theorem dJ6_numberOfTrailingZeros_0f7a4_9 : decode cJ6_numberOfTrailingZeros_0f7a4 9 = .ok (.ifCond .gt 8, 3) := by decide +kernel
theorem dJ6_numberOfTrailingZeros_0f7a4_12 : decode cJ6_numberOfTrailingZeros_0f7a4 12 = .ok (.iload_n 0, 1) := by decide +kernel
theorem dJ6_numberOfTrailingZeros_0f7a4_13 : decode cJ6_numberOfTrailingZeros_0f7a4 13 = .ok (.bipush 32, 2) := by decide +kernel
theorem dJ6_numberOfTrailingZeros_0f7a4_15 : decode cJ6_numberOfTrailingZeros_0f7a4 15 = .ok (.iand, 1) := by decide +kernel
theorem dJ6_numberOfTrailingZeros_0f7a4_16 : decode cJ6_numberOfTrailingZeros_0f7a4 16 = .ok (.ireturn, 1) := by decide +kernel
theorem dJ6_numberOfTrailingZeros_0f7a4_17 : decode cJ6_numberOfTrailingZeros_0f7a4 17 = .ok (.iconst 1, 1) := by decide +kernel
theorem dJ6_numberOfTrailingZeros_0f7a4_18 : decode cJ6_numberOfTrailingZeros_0f7a4 18 = .ok (.istore_n 1, 1) := by decide +kernel
theorem dJ6_numberOfTrailingZeros_0f7a4_19 : decode cJ6_numberOfTrailingZeros_0f7a4 19 = .ok (.iload_n 0, 1) := by decide +kernel
theorem dJ6_numberOfTrailingZeros_0f7a4_20 : decode cJ6_numberOfTrailingZeros_0f7a4 20 = .ok (.ldc_w 264, 3) := by decide +kernel
theorem dJ6_numberOfTrailingZeros_0f7a4_23 : decode cJ6_numberOfTrailingZeros_0f7a4 23 = .ok (.if_icmp .le 11, 3) := by decide +kernel
theorem dJ6_numberOfTrailingZeros_0f7a4_26 : decode cJ6_numberOfTrailingZeros_0f7a4 26 = .ok (.iinc 1 16, 3) := by decide +kernel
theorem dJ6_numberOfTrailingZeros_0f7a4_29 : decode cJ6_numberOfTrailingZeros_0f7a4 29 = .ok (.iload_n 0, 1) := by decide +kernel
theorem dJ6_numberOfTrailingZeros_0f7a4_30 : decode cJ6_numberOfTrailingZeros_0f7a4 30 = .ok (.bipush 16, 2) := by decide +kernel
theorem dJ6_numberOfTrailingZeros_0f7a4_32 : decode cJ6_numberOfTrailingZeros_0f7a4 32 = .ok (.iushr, 1) := by decide +kernel
theorem dJ6_numberOfTrailingZeros_0f7a4_33 : decode cJ6_numberOfTrailingZeros_0f7a4 33 = .ok (.istore_n 0, 1) := by decide +kernel
theorem dJ6_numberOfTrailingZeros_0f7a4_34 : decode cJ6_numberOfTrailingZeros_0f7a4 34 = .ok (.iload_n 0, 1) := by decide +kernel
theorem dJ6_numberOfTrailingZeros_0f7a4_35 : decode cJ6_numberOfTrailingZeros_0f7a4 35 = .ok (.sipush 256, 3) := by decide +kernel
theorem dJ6_numberOfTrailingZeros_0f7a4_38 : decode cJ6_numberOfTrailingZeros_0f7a4 38 = .ok (.if_icmp .le 11, 3) := by decide +kernel
theorem dJ6_numberOfTrailingZeros_0f7a4_41 : decode cJ6_numberOfTrailingZeros_0f7a4 41 = .ok (.iinc 1 8, 3) := by decide +kernel
theorem dJ6_numberOfTrailingZeros_0f7a4_44 : decode cJ6_numberOfTrailingZeros_0f7a4 44 = .ok (.iload_n 0, 1) := by decide +kernel
theorem dJ6_numberOfTrailingZeros_0f7a4_45 : decode cJ6_numberOfTrailingZeros_0f7a4 45 = .ok (.bipush 8, 2) := by decide +kernel
theorem dJ6_numberOfTrailingZeros_0f7a4_47 : decode cJ6_numberOfTrailingZeros_0f7a4 47 = .ok (.iushr, 1) := by decide +kernel
theorem dJ6_numberOfTrailingZeros_0f7a4_48 : decode cJ6_numberOfTrailingZeros_0f7a4 48 = .ok (.istore_n 0, 1) := by decide +kernel
theorem dJ6_numberOfTrailingZeros_0f7a4_49 : decode cJ6_numberOfTrailingZeros_0f7a4 49 = .ok (.iload_n 0, 1) := by decide +kernel
theorem dJ6_numberOfTrailingZeros_0f7a4_50 : decode cJ6_numberOfTrailingZeros_0f7a4 50 = .ok (.bipush 16, 2) := by decide +kernel
theorem dJ6_numberOfTrailingZeros_0f7a4_52 : decode cJ6_numberOfTrailingZeros_0f7a4 52 = .ok (.if_icmp .le 10, 3) := by decide +kernel
theorem dJ6_numberOfTrailingZeros_0f7a4_55 : decode cJ6_numberOfTrailingZeros_0f7a4 55 = .ok (.iinc 1 4, 3) := by decide +kernel
theorem dJ6_numberOfTrailingZeros_0f7a4_58 : decode cJ6_numberOfTrailingZeros_0f7a4 58 = .ok (.iload_n 0, 1) := by decide +kernel
theorem dJ6_numberOfTrailingZeros_0f7a4_59 : decode cJ6_numberOfTrailingZeros_0f7a4 59 = .ok (.iconst 4, 1) := by decide +kernel
theorem dJ6_numberOfTrailingZeros_0f7a4_60 : decode cJ6_numberOfTrailingZeros_0f7a4 60 = .ok (.iushr, 1) := by decide +kernel
theorem dJ6_numberOfTrailingZeros_0f7a4_61 : decode cJ6_numberOfTrailingZeros_0f7a4 61 = .ok (.istore_n 0, 1) := by decide +kernel
theorem dJ6_numberOfTrailingZeros_0f7a4_62 : decode cJ6_numberOfTrailingZeros_0f7a4 62 = .ok (.iload_n 0, 1) := by decide +kernel
theorem dJ6_numberOfTrailingZeros_0f7a4_63 : decode cJ6_numberOfTrailingZeros_0f7a4 63 = .ok (.iconst 4, 1) := by decide +kernel
theorem dJ6_numberOfTrailingZeros_0f7a4_64 : decode cJ6_numberOfTrailingZeros_0f7a4 64 = .ok (.if_icmp .le 10, 3) := by decide +kernel
theorem dJ6_numberOfTrailingZeros_0f7a4_67 : decode cJ6_numberOfTrailingZeros_0f7a4 67 = .ok (.iinc 1 2, 3) := by decide +kernel
theorem dJ6_numberOfTrailingZeros_0f7a4_70 : decode cJ6_numberOfTrailingZeros_0f7a4 70 = .ok (.iload_n 0, 1) := by decide +kernel
theorem dJ6_numberOfTrailingZeros_0f7a4_71 : decode cJ6_numberOfTrailingZeros_0f7a4 71 = .ok (.iconst 2, 1) := by decide +kernel
theorem dJ6_numberOfTrailingZeros_0f7a4_72 : decode cJ6_numberOfTrailingZeros_0f7a4 72 = .ok (.iushr, 1) := by decide +kernel
theorem dJ6_numberOfTrailingZeros_0f7a4_73 : decode cJ6_numberOfTrailingZeros_0f7a4 73 = .ok (.istore_n 0, 1) := by decide +kernel
theorem dJ6_numberOfTrailingZeros_0f7a4_74 : decode cJ6_numberOfTrailingZeros_0f7a4 74 = .ok (.iload_n 1, 1) := by decide +kernel
theorem dJ6_numberOfTrailingZeros_0f7a4_75 : decode cJ6_numberOfTrailingZeros_0f7a4 75 = .ok (.iload_n 0, 1) := by decide +kernel
end
section
theorem dJ6_numberOfTrailingZeros_0f7a4_76 : decode cJ6_numberOfTrailingZeros_0f7a4 76 = .ok (.iconst 1, 1) := by decide +kernel
theorem dJ6_numberOfTrailingZeros_0f7a4_77 : decode cJ6_numberOfTrailingZeros_0f7a4 77 = .ok (.iushr, 1) := by decide +kernel
theorem dJ6_numberOfTrailingZeros_0f7a4_78 : decode cJ6_numberOfTrailingZeros_0f7a4 78 = .ok (.iadd, 1) := by decide +kernel
theorem dJ6_numberOfTrailingZeros_0f7a4_79 : decode cJ6_numberOfTrailingZeros_0f7a4 79 = .ok (.ireturn, 1) := by decide +kernel
theorem dJ6_bitCount_0f7a4_0 : decode cJ6_bitCount_0f7a4 0 = .ok (.iload_n 0, 1) := by decide +kernel
theorem dJ6_bitCount_0f7a4_1 : decode cJ6_bitCount_0f7a4 1 = .ok (.iload_n 0, 1) := by decide +kernel
theorem dJ6_bitCount_0f7a4_2 : decode cJ6_bitCount_0f7a4 2 = .ok (.iconst 1, 1) := by decide +kernel
theorem dJ6_bitCount_0f7a4_3 : decode cJ6_bitCount_0f7a4 3 = .ok (.iushr, 1) := by decide +kernel
theorem dJ6_bitCount_0f7a4_4 : decode cJ6_bitCount_0f7a4 4 = .ok (.ldc_w 265, 3) := by decide +kernel
theorem dJ6_bitCount_0f7a4_7 : decode cJ6_bitCount_0f7a4 7 = .ok (.iand, 1) := by decide +kernel
theorem dJ6_bitCount_0f7a4_8 : decode cJ6_bitCount_0f7a4 8 = .ok (.isub, 1) := by decide +kernel
theorem dJ6_bitCount_0f7a4_9 : decode cJ6_bitCount_0f7a4 9 = .ok (.istore_n 0, 1) := by decide +kernel
theorem dJ6_bitCount_0f7a4_10 : decode cJ6_bitCount_0f7a4 10 = .ok (.iload_n 0, 1) := by decide +kernel
theorem dJ6_bitCount_0f7a4_11 : decode cJ6_bitCount_0f7a4 11 = .ok (.ldc_w 266, 3) := by decide +kernel
theorem dJ6_bitCount_0f7a4_14 : decode cJ6_bitCount_0f7a4 14 = .ok (.iand, 1) := by decide +kernel
theorem dJ6_bitCount_0f7a4_15 : decode cJ6_bitCount_0f7a4 15 = .ok (.iload_n 0, 1) := by decide +kernel
theorem dJ6_bitCount_0f7a4_16 : decode cJ6_bitCount_0f7a4 16 = .ok (.iconst 2, 1) := by decide +kernel
theorem dJ6_bitCount_0f7a4_17 : decode cJ6_bitCount_0f7a4 17 = .ok (.iushr, 1) := by decide +kernel
theorem dJ6_bitCount_0f7a4_18 : decode cJ6_bitCount_0f7a4 18 = .ok (.ldc_w 266, 3) := by decide +kernel
theorem dJ6_bitCount_0f7a4_21 : decode cJ6_bitCount_0f7a4 21 = .ok (.iand, 1) := by decide +kernel
theorem dJ6_bitCount_0f7a4_22 : decode cJ6_bitCount_0f7a4 22 = .ok (.iadd, 1) := by decide +kernel
theorem dJ6_bitCount_0f7a4_23 : decode cJ6_bitCount_0f7a4 23 = .ok (.istore_n 0, 1) := by decide +kernel
theorem dJ6_bitCount_0f7a4_24 : decode cJ6_bitCount_0f7a4 24 = .ok (.iload_n 0, 1) := by decide +kernel
theorem dJ6_bitCount_0f7a4_25 : decode cJ6_bitCount_0f7a4 25 = .ok (.iload_n 0, 1) := by decide +kernel
theorem dJ6_bitCount_0f7a4_26 : decode cJ6_bitCount_0f7a4 26 = .ok (.iconst 4, 1) := by decide +kernel
theorem dJ6_bitCount_0f7a4_27 : decode cJ6_bitCount_0f7a4 27 = .ok (.iushr, 1) := by decide +kernel
theorem dJ6_bitCount_0f7a4_28 : decode cJ6_bitCount_0f7a4 28 = .ok (.iadd, 1) := by decide +kernel
theorem dJ6_bitCount_0f7a4_29 : decode cJ6_bitCount_0f7a4 29 = .ok (.ldc_w 267, 3) := by decide +kernel
theorem dJ6_bitCount_0f7a4_32 : decode cJ6_bitCount_0f7a4 32 = .ok (.iand, 1) := by decide +kernel
theorem dJ6_bitCount_0f7a4_33 : decode cJ6_bitCount_0f7a4 33 = .ok (.istore_n 0, 1) := by decide +kernel
theorem dJ6_bitCount_0f7a4_34 : decode cJ6_bitCount_0f7a4 34 = .ok (.iload_n 0, 1) := by decide +kernel
theorem dJ6_bitCount_0f7a4_35 : decode cJ6_bitCount_0f7a4 35 = .ok (.iload_n 0, 1) := by decide +kernel
theorem dJ6_bitCount_0f7a4_36 : decode cJ6_bitCount_0f7a4 36 = .ok (.bipush 8, 2) := by decide +kernel
theorem dJ6_bitCount_0f7a4_38 : decode cJ6_bitCount_0f7a4 38 = .ok (.iushr, 1) := by decide +kernel
theorem dJ6_bitCount_0f7a4_39 : decode cJ6_bitCount_0f7a4 39 = .ok (.iadd, 1) := by decide +kernel
theorem dJ6_bitCount_0f7a4_40 : decode cJ6_bitCount_0f7a4 40 = .ok (.istore_n 0, 1) := by decide +kernel
theorem dJ6_bitCount_0f7a4_41 : decode cJ6_bitCount_0f7a4 41 = .ok (.iload_n 0, 1) := by decide +kernel
theorem dJ6_bitCount_0f7a4_42 : decode cJ6_bitCount_0f7a4 42 = .ok (.iload_n 0, 1) := by decide +kernel
theorem dJ6_bitCount_0f7a4_43 : decode cJ6_bitCount_0f7a4 43 = .ok (.bipush 16, 2) := by decide +kernel
theorem dJ6_bitCount_0f7a4_45 : decode cJ6_bitCount_0f7a4 45 = .ok (.iushr, 1) := by decide +kernel
theorem dJ6_bitCount_0f7a4_46 : decode cJ6_bitCount_0f7a4 46 = .ok (.iadd, 1) := by decide +kernel
theorem dJ6_bitCount_0f7a4_47 : decode cJ6_bitCount_0f7a4 47 = .ok (.istore_n 0, 1) := by decide +kernel
theorem dJ6_bitCount_0f7a4_48 : decode cJ6_bitCount_0f7a4 48 = .ok (.iload_n 0, 1) := by decide +kernel
theorem dJ6_bitCount_0f7a4_49 : decode cJ6_bitCount_0f7a4 49 = .ok (.bipush 63, 2) := by decide +kernel
theorem dJ6_bitCount_0f7a4_51 : decode cJ6_bitCount_0f7a4 51 = .ok (.iand, 1) := by decide +kernel
theorem dJ6_bitCount_0f7a4_52 : decode cJ6_bitCount_0f7a4 52 = .ok (.ireturn, 1) := by decide +kernel
theorem dJ9_max_7cf53_0 : decode cJ9_max_7cf53 0 = .ok (.iload_n 0, 1) := by decide +kernel
theorem dJ9_max_7cf53_1 : decode cJ9_max_7cf53 1 = .ok (.iload_n 1, 1) := by decide +kernel
theorem dJ9_max_7cf53_2 : decode cJ9_max_7cf53 2 = .ok (.if_icmp .lt 7, 3) := by decide +kernel
theorem dJ9_max_7cf53_5 : decode cJ9_max_7cf53 5 = .ok (.iload_n 0, 1) := by decide +kernel
theorem dJ9_max_7cf53_6 : decode cJ9_max_7cf53 6 = .ok (.goto 4, 3) := by decide +kernel
theorem dJ9_max_7cf53_9 : decode cJ9_max_7cf53 9 = .ok (.iload_n 1, 1) := by decide +kernel
theorem dJ9_max_7cf53_10 : decode cJ9_max_7cf53 10 = .ok (.ireturn, 1) := by decide +kernel
theorem dL_law_0 : decode cL_law 0 = .ok (.new 7, 3) := by decide +kernel
theorem dL_law_3 : decode cL_law 3 = .ok (.dup, 1) := by decide +kernel
theorem dL_law_4 : decode cL_law 4 = .ok (.invokespecial 9, 3) := by decide +kernel
theorem dL_law_7 : decode cL_law 7 = .ok (.astore_n 1, 1) := by decide +kernel
theorem dL_law_8 : decode cL_law 8 = .ok (.new 10, 3) := by decide +kernel
theorem dL_law_11 : decode cL_law 11 = .ok (.dup, 1) := by decide +kernel
theorem dL_law_12 : decode cL_law 12 = .ok (.invokespecial 12, 3) := by decide +kernel
theorem dL_law_15 : decode cL_law 15 = .ok (.astore_n 2, 1) := by decide +kernel
theorem dL_law_16 : decode cL_law 16 = .ok (.iconst 0, 1) := by decide +kernel
theorem dL_law_17 : decode cL_law 17 = .ok (.istore_n 3, 1) := by decide +kernel
theorem dL_law_18 : decode cL_law 18 = .ok (.iload_n 3, 1) := by decide +kernel
theorem dL_law_19 : decode cL_law 19 = .ok (.aload_n 0, 1) := by decide +kernel
theorem dL_law_20 : decode cL_law 20 = .ok (.arraylength, 1) := by decide +kernel
theorem dL_law_21 : decode cL_law 21 = .ok (.iconst 5, 1) := by decide +kernel
theorem dL_law_22 : decode cL_law 22 = .ok (.isub, 1) := by decide +kernel
theorem dL_law_23 : decode cL_law 23 = .ok (.if_icmp .gt 904, 3) := by decide +kernel
theorem dL_law_26 : decode cL_law 26 = .ok (.aload_n 0, 1) := by decide +kernel
theorem dL_law_27 : decode cL_law 27 = .ok (.iload_n 3, 1) := by decide +kernel
theorem dL_law_28 : decode cL_law 28 = .ok (.iaload, 1) := by decide +kernel
theorem dL_law_29 : decode cL_law 29 = .ok (.bipush 31, 2) := by decide +kernel
theorem dL_law_31 : decode cL_law 31 = .ok (.iand, 1) := by decide +kernel
theorem dL_law_32 : decode cL_law 32 = .ok (.tableswitch 889 0 26 #[124, 177, 190, 203, 216, 249, 282, 331, 364, 397, 446, 479, 512, 535, 548, 581, 635, 678, 691, 724, 737, 770, 783, 826, 839, 852, 875], 124) := by decide +kernel
theorem dL_law_156 : decode cL_law 156 = .ok (.aload_n 1, 1) := by decide +kernel
theorem dL_law_157 : decode cL_law 157 = .ok (.aload_n 0, 1) := by decide +kernel
theorem dL_law_158 : decode cL_law 158 = .ok (.iload_n 3, 1) := by decide +kernel
theorem dL_law_159 : decode cL_law 159 = .ok (.iconst 1, 1) := by decide +kernel
theorem dL_law_160 : decode cL_law 160 = .ok (.iadd, 1) := by decide +kernel
theorem dL_law_161 : decode cL_law 161 = .ok (.iaload, 1) := by decide +kernel
theorem dL_law_162 : decode cL_law 162 = .ok (.i2l, 1) := by decide +kernel
theorem dL_law_163 : decode cL_law 163 = .ok (.bipush 32, 2) := by decide +kernel
theorem dL_law_165 : decode cL_law 165 = .ok (.lshl, 1) := by decide +kernel
theorem dL_law_166 : decode cL_law 166 = .ok (.aload_n 0, 1) := by decide +kernel
theorem dL_law_167 : decode cL_law 167 = .ok (.iload_n 3, 1) := by decide +kernel
theorem dL_law_168 : decode cL_law 168 = .ok (.iconst 2, 1) := by decide +kernel
theorem dL_law_169 : decode cL_law 169 = .ok (.iadd, 1) := by decide +kernel
theorem dL_law_170 : decode cL_law 170 = .ok (.iaload, 1) := by decide +kernel
theorem dL_law_171 : decode cL_law 171 = .ok (.i2l, 1) := by decide +kernel
theorem dL_law_172 : decode cL_law 172 = .ok (.ldc2_w 13, 3) := by decide +kernel
theorem dL_law_175 : decode cL_law 175 = .ok (.land, 1) := by decide +kernel
theorem dL_law_176 : decode cL_law 176 = .ok (.lor, 1) := by decide +kernel
theorem dL_law_177 : decode cL_law 177 = .ok (.invokevirtual 15, 3) := by decide +kernel
theorem dL_law_180 : decode cL_law 180 = .ok (.aload_n 2, 1) := by decide +kernel
theorem dL_law_181 : decode cL_law 181 = .ok (.aload_n 0, 1) := by decide +kernel
theorem dL_law_182 : decode cL_law 182 = .ok (.iload_n 3, 1) := by decide +kernel
theorem dL_law_183 : decode cL_law 183 = .ok (.iconst 1, 1) := by decide +kernel
theorem dL_law_184 : decode cL_law 184 = .ok (.iadd, 1) := by decide +kernel
theorem dL_law_185 : decode cL_law 185 = .ok (.iaload, 1) := by decide +kernel
theorem dL_law_186 : decode cL_law 186 = .ok (.i2l, 1) := by decide +kernel
theorem dL_law_187 : decode cL_law 187 = .ok (.bipush 32, 2) := by decide +kernel
theorem dL_law_189 : decode cL_law 189 = .ok (.lshl, 1) := by decide +kernel
theorem dL_law_190 : decode cL_law 190 = .ok (.aload_n 0, 1) := by decide +kernel
theorem dL_law_191 : decode cL_law 191 = .ok (.iload_n 3, 1) := by decide +kernel
theorem dL_law_192 : decode cL_law 192 = .ok (.iconst 2, 1) := by decide +kernel
theorem dL_law_193 : decode cL_law 193 = .ok (.iadd, 1) := by decide +kernel
theorem dL_law_194 : decode cL_law 194 = .ok (.iaload, 1) := by decide +kernel
theorem dL_law_195 : decode cL_law 195 = .ok (.i2l, 1) := by decide +kernel
theorem dL_law_196 : decode cL_law 196 = .ok (.ldc2_w 13, 3) := by decide +kernel
theorem dL_law_199 : decode cL_law 199 = .ok (.land, 1) := by decide +kernel
theorem dL_law_200 : decode cL_law 200 = .ok (.lor, 1) := by decide +kernel
theorem dL_law_201 : decode cL_law 201 = .ok (.invokevirtual 19, 3) := by decide +kernel
theorem dL_law_204 : decode cL_law 204 = .ok (.if_icmp .eq 717, 3) := by decide +kernel
theorem dL_law_207 : decode cL_law 207 = .ok (.iconst 0, 1) := by decide +kernel
theorem dL_law_208 : decode cL_law 208 = .ok (.ireturn, 1) := by decide +kernel
theorem dL_law_209 : decode cL_law 209 = .ok (.aload_n 1, 1) := by decide +kernel
theorem dL_law_210 : decode cL_law 210 = .ok (.invokevirtual 20, 3) := by decide +kernel
theorem dL_law_213 : decode cL_law 213 = .ok (.aload_n 2, 1) := by decide +kernel
theorem dL_law_214 : decode cL_law 214 = .ok (.invokevirtual 24, 3) := by decide +kernel
theorem dL_law_217 : decode cL_law 217 = .ok (.if_icmp .eq 704, 3) := by decide +kernel
theorem dL_law_220 : decode cL_law 220 = .ok (.iconst 0, 1) := by decide +kernel
theorem dL_law_221 : decode cL_law 221 = .ok (.ireturn, 1) := by decide +kernel
theorem dL_law_222 : decode cL_law 222 = .ok (.aload_n 1, 1) := by decide +kernel
theorem dL_law_223 : decode cL_law 223 = .ok (.invokevirtual 25, 3) := by decide +kernel
theorem dL_law_226 : decode cL_law 226 = .ok (.aload_n 2, 1) := by decide +kernel
theorem dL_law_227 : decode cL_law 227 = .ok (.invokevirtual 28, 3) := by decide +kernel
theorem dL_law_230 : decode cL_law 230 = .ok (.if_icmp .eq 691, 3) := by decide +kernel
theorem dL_law_233 : decode cL_law 233 = .ok (.iconst 0, 1) := by decide +kernel
theorem dL_law_234 : decode cL_law 234 = .ok (.ireturn, 1) := by decide +kernel
theorem dL_law_235 : decode cL_law 235 = .ok (.aload_n 1, 1) := by decide +kernel
theorem dL_law_236 : decode cL_law 236 = .ok (.invokevirtual 29, 3) := by decide +kernel
theorem dL_law_239 : decode cL_law 239 = .ok (.aload_n 2, 1) := by decide +kernel
theorem dL_law_240 : decode cL_law 240 = .ok (.invokevirtual 32, 3) := by decide +kernel
theorem dL_law_243 : decode cL_law 243 = .ok (.if_icmp .eq 678, 3) := by decide +kernel
theorem dL_law_246 : decode cL_law 246 = .ok (.iconst 0, 1) := by decide +kernel
theorem dL_law_247 : decode cL_law 247 = .ok (.ireturn, 1) := by decide +kernel
theorem dL_law_248 : decode cL_law 248 = .ok (.aload_n 1, 1) := by decide +kernel
theorem dL_law_249 : decode cL_law 249 = .ok (.aload_n 0, 1) := by decide +kernel
theorem dL_law_250 : decode cL_law 250 = .ok (.iload_n 3, 1) := by decide +kernel
theorem dL_law_251 : decode cL_law 251 = .ok (.iconst 1, 1) := by decide +kernel
theorem dL_law_252 : decode cL_law 252 = .ok (.iadd, 1) := by decide +kernel
theorem dL_law_253 : decode cL_law 253 = .ok (.iaload, 1) := by decide +kernel
theorem dL_law_254 : decode cL_law 254 = .ok (.aload_n 0, 1) := by decide +kernel
theorem dL_law_255 : decode cL_law 255 = .ok (.iload_n 3, 1) := by decide +kernel
theorem dL_law_256 : decode cL_law 256 = .ok (.iconst 2, 1) := by decide +kernel
theorem dL_law_257 : decode cL_law 257 = .ok (.iadd, 1) := by decide +kernel
theorem dL_law_258 : decode cL_law 258 = .ok (.iaload, 1) := by decide +kernel
theorem dL_law_259 : decode cL_law 259 = .ok (.invokevirtual 33, 3) := by decide +kernel
theorem dL_law_262 : decode cL_law 262 = .ok (.aload_n 2, 1) := by decide +kernel
theorem dL_law_263 : decode cL_law 263 = .ok (.aload_n 0, 1) := by decide +kernel
theorem dL_law_264 : decode cL_law 264 = .ok (.iload_n 3, 1) := by decide +kernel
theorem dL_law_265 : decode cL_law 265 = .ok (.iconst 1, 1) := by decide +kernel
theorem dL_law_266 : decode cL_law 266 = .ok (.iadd, 1) := by decide +kernel
theorem dL_law_267 : decode cL_law 267 = .ok (.iaload, 1) := by decide +kernel
theorem dL_law_268 : decode cL_law 268 = .ok (.aload_n 0, 1) := by decide +kernel
theorem dL_law_269 : decode cL_law 269 = .ok (.iload_n 3, 1) := by decide +kernel
theorem dL_law_270 : decode cL_law 270 = .ok (.iconst 2, 1) := by decide +kernel
theorem dL_law_271 : decode cL_law 271 = .ok (.iadd, 1) := by decide +kernel
theorem dL_law_272 : decode cL_law 272 = .ok (.iaload, 1) := by decide +kernel
theorem dL_law_273 : decode cL_law 273 = .ok (.invokevirtual 37, 3) := by decide +kernel
theorem dL_law_276 : decode cL_law 276 = .ok (.if_icmp .eq 645, 3) := by decide +kernel
theorem dL_law_279 : decode cL_law 279 = .ok (.iconst 0, 1) := by decide +kernel
theorem dL_law_280 : decode cL_law 280 = .ok (.ireturn, 1) := by decide +kernel
theorem dL_law_281 : decode cL_law 281 = .ok (.aload_n 1, 1) := by decide +kernel
theorem dL_law_282 : decode cL_law 282 = .ok (.aload_n 0, 1) := by decide +kernel
theorem dL_law_283 : decode cL_law 283 = .ok (.iload_n 3, 1) := by decide +kernel
theorem dL_law_284 : decode cL_law 284 = .ok (.iconst 1, 1) := by decide +kernel
theorem dL_law_285 : decode cL_law 285 = .ok (.iadd, 1) := by decide +kernel
theorem dL_law_286 : decode cL_law 286 = .ok (.iaload, 1) := by decide +kernel
theorem dL_law_287 : decode cL_law 287 = .ok (.aload_n 0, 1) := by decide +kernel
theorem dL_law_288 : decode cL_law 288 = .ok (.iload_n 3, 1) := by decide +kernel
theorem dL_law_289 : decode cL_law 289 = .ok (.iconst 2, 1) := by decide +kernel
theorem dL_law_290 : decode cL_law 290 = .ok (.iadd, 1) := by decide +kernel
theorem dL_law_291 : decode cL_law 291 = .ok (.iaload, 1) := by decide +kernel
theorem dL_law_292 : decode cL_law 292 = .ok (.invokevirtual 38, 3) := by decide +kernel
theorem dL_law_295 : decode cL_law 295 = .ok (.aload_n 2, 1) := by decide +kernel
theorem dL_law_296 : decode cL_law 296 = .ok (.aload_n 0, 1) := by decide +kernel
theorem dL_law_297 : decode cL_law 297 = .ok (.iload_n 3, 1) := by decide +kernel
theorem dL_law_298 : decode cL_law 298 = .ok (.iconst 1, 1) := by decide +kernel
theorem dL_law_299 : decode cL_law 299 = .ok (.iadd, 1) := by decide +kernel
theorem dL_law_300 : decode cL_law 300 = .ok (.iaload, 1) := by decide +kernel
theorem dL_law_301 : decode cL_law 301 = .ok (.aload_n 0, 1) := by decide +kernel
theorem dL_law_302 : decode cL_law 302 = .ok (.iload_n 3, 1) := by decide +kernel
theorem dL_law_303 : decode cL_law 303 = .ok (.iconst 2, 1) := by decide +kernel
theorem dL_law_304 : decode cL_law 304 = .ok (.iadd, 1) := by decide +kernel
theorem dL_law_305 : decode cL_law 305 = .ok (.iaload, 1) := by decide +kernel
theorem dL_law_306 : decode cL_law 306 = .ok (.invokevirtual 41, 3) := by decide +kernel
theorem dL_law_309 : decode cL_law 309 = .ok (.if_icmp .eq 612, 3) := by decide +kernel
theorem dL_law_312 : decode cL_law 312 = .ok (.iconst 0, 1) := by decide +kernel
theorem dL_law_313 : decode cL_law 313 = .ok (.ireturn, 1) := by decide +kernel
theorem dL_law_314 : decode cL_law 314 = .ok (.aload_n 1, 1) := by decide +kernel
theorem dL_law_315 : decode cL_law 315 = .ok (.aload_n 0, 1) := by decide +kernel
theorem dL_law_316 : decode cL_law 316 = .ok (.iload_n 3, 1) := by decide +kernel
theorem dL_law_317 : decode cL_law 317 = .ok (.iconst 1, 1) := by decide +kernel
theorem dL_law_318 : decode cL_law 318 = .ok (.iadd, 1) := by decide +kernel
theorem dL_law_319 : decode cL_law 319 = .ok (.iaload, 1) := by decide +kernel
theorem dL_law_320 : decode cL_law 320 = .ok (.aload_n 0, 1) := by decide +kernel
theorem dL_law_321 : decode cL_law 321 = .ok (.iload_n 3, 1) := by decide +kernel
theorem dL_law_322 : decode cL_law 322 = .ok (.iconst 2, 1) := by decide +kernel
theorem dL_law_323 : decode cL_law 323 = .ok (.iadd, 1) := by decide +kernel
theorem dL_law_324 : decode cL_law 324 = .ok (.iaload, 1) := by decide +kernel
theorem dL_law_325 : decode cL_law 325 = .ok (.ifCond .eq 7, 3) := by decide +kernel
theorem dL_law_328 : decode cL_law 328 = .ok (.iconst 1, 1) := by decide +kernel
theorem dL_law_329 : decode cL_law 329 = .ok (.goto 4, 3) := by decide +kernel
theorem dL_law_332 : decode cL_law 332 = .ok (.iconst 0, 1) := by decide +kernel
theorem dL_law_333 : decode cL_law 333 = .ok (.invokevirtual 42, 3) := by decide +kernel
theorem dL_law_336 : decode cL_law 336 = .ok (.aload_n 2, 1) := by decide +kernel
theorem dL_law_337 : decode cL_law 337 = .ok (.aload_n 0, 1) := by decide +kernel
theorem dL_law_338 : decode cL_law 338 = .ok (.iload_n 3, 1) := by decide +kernel
theorem dL_law_339 : decode cL_law 339 = .ok (.iconst 1, 1) := by decide +kernel
theorem dL_law_340 : decode cL_law 340 = .ok (.iadd, 1) := by decide +kernel
theorem dL_law_341 : decode cL_law 341 = .ok (.iaload, 1) := by decide +kernel
theorem dL_law_342 : decode cL_law 342 = .ok (.aload_n 0, 1) := by decide +kernel
theorem dL_law_343 : decode cL_law 343 = .ok (.iload_n 3, 1) := by decide +kernel
theorem dL_law_344 : decode cL_law 344 = .ok (.iconst 2, 1) := by decide +kernel
theorem dL_law_345 : decode cL_law 345 = .ok (.iadd, 1) := by decide +kernel
theorem dL_law_346 : decode cL_law 346 = .ok (.iaload, 1) := by decide +kernel
theorem dL_law_347 : decode cL_law 347 = .ok (.ifCond .eq 7, 3) := by decide +kernel
theorem dL_law_350 : decode cL_law 350 = .ok (.iconst 1, 1) := by decide +kernel
theorem dL_law_351 : decode cL_law 351 = .ok (.goto 4, 3) := by decide +kernel
theorem dL_law_354 : decode cL_law 354 = .ok (.iconst 0, 1) := by decide +kernel
theorem dL_law_355 : decode cL_law 355 = .ok (.invokevirtual 46, 3) := by decide +kernel
theorem dL_law_358 : decode cL_law 358 = .ok (.if_icmp .eq 563, 3) := by decide +kernel
theorem dL_law_361 : decode cL_law 361 = .ok (.iconst 0, 1) := by decide +kernel
theorem dL_law_362 : decode cL_law 362 = .ok (.ireturn, 1) := by decide +kernel
theorem dL_law_363 : decode cL_law 363 = .ok (.aload_n 1, 1) := by decide +kernel
theorem dL_law_364 : decode cL_law 364 = .ok (.aload_n 0, 1) := by decide +kernel
theorem dL_law_365 : decode cL_law 365 = .ok (.iload_n 3, 1) := by decide +kernel
theorem dL_law_366 : decode cL_law 366 = .ok (.iconst 1, 1) := by decide +kernel
theorem dL_law_367 : decode cL_law 367 = .ok (.iadd, 1) := by decide +kernel
theorem dL_law_368 : decode cL_law 368 = .ok (.iaload, 1) := by decide +kernel
theorem dL_law_369 : decode cL_law 369 = .ok (.aload_n 0, 1) := by decide +kernel
theorem dL_law_370 : decode cL_law 370 = .ok (.iload_n 3, 1) := by decide +kernel
theorem dL_law_371 : decode cL_law 371 = .ok (.iconst 2, 1) := by decide +kernel
theorem dL_law_372 : decode cL_law 372 = .ok (.iadd, 1) := by decide +kernel
theorem dL_law_373 : decode cL_law 373 = .ok (.iaload, 1) := by decide +kernel
theorem dL_law_374 : decode cL_law 374 = .ok (.invokevirtual 47, 3) := by decide +kernel
theorem dL_law_377 : decode cL_law 377 = .ok (.aload_n 2, 1) := by decide +kernel
theorem dL_law_378 : decode cL_law 378 = .ok (.aload_n 0, 1) := by decide +kernel
theorem dL_law_379 : decode cL_law 379 = .ok (.iload_n 3, 1) := by decide +kernel
theorem dL_law_380 : decode cL_law 380 = .ok (.iconst 1, 1) := by decide +kernel
theorem dL_law_381 : decode cL_law 381 = .ok (.iadd, 1) := by decide +kernel
theorem dL_law_382 : decode cL_law 382 = .ok (.iaload, 1) := by decide +kernel
theorem dL_law_383 : decode cL_law 383 = .ok (.aload_n 0, 1) := by decide +kernel
theorem dL_law_384 : decode cL_law 384 = .ok (.iload_n 3, 1) := by decide +kernel
theorem dL_law_385 : decode cL_law 385 = .ok (.iconst 2, 1) := by decide +kernel
theorem dL_law_386 : decode cL_law 386 = .ok (.iadd, 1) := by decide +kernel
theorem dL_law_387 : decode cL_law 387 = .ok (.iaload, 1) := by decide +kernel
theorem dL_law_388 : decode cL_law 388 = .ok (.invokevirtual 50, 3) := by decide +kernel
theorem dL_law_391 : decode cL_law 391 = .ok (.if_icmp .eq 530, 3) := by decide +kernel
theorem dL_law_394 : decode cL_law 394 = .ok (.iconst 0, 1) := by decide +kernel
theorem dL_law_395 : decode cL_law 395 = .ok (.ireturn, 1) := by decide +kernel
theorem dL_law_396 : decode cL_law 396 = .ok (.aload_n 1, 1) := by decide +kernel
theorem dL_law_397 : decode cL_law 397 = .ok (.aload_n 0, 1) := by decide +kernel
theorem dL_law_398 : decode cL_law 398 = .ok (.iload_n 3, 1) := by decide +kernel
theorem dL_law_399 : decode cL_law 399 = .ok (.iconst 1, 1) := by decide +kernel
theorem dL_law_400 : decode cL_law 400 = .ok (.iadd, 1) := by decide +kernel
theorem dL_law_401 : decode cL_law 401 = .ok (.iaload, 1) := by decide +kernel
theorem dL_law_402 : decode cL_law 402 = .ok (.aload_n 0, 1) := by decide +kernel
theorem dL_law_403 : decode cL_law 403 = .ok (.iload_n 3, 1) := by decide +kernel
theorem dL_law_404 : decode cL_law 404 = .ok (.iconst 2, 1) := by decide +kernel
theorem dL_law_405 : decode cL_law 405 = .ok (.iadd, 1) := by decide +kernel
theorem dL_law_406 : decode cL_law 406 = .ok (.iaload, 1) := by decide +kernel
theorem dL_law_407 : decode cL_law 407 = .ok (.invokevirtual 51, 3) := by decide +kernel
theorem dL_law_410 : decode cL_law 410 = .ok (.aload_n 2, 1) := by decide +kernel
theorem dL_law_411 : decode cL_law 411 = .ok (.aload_n 0, 1) := by decide +kernel
theorem dL_law_412 : decode cL_law 412 = .ok (.iload_n 3, 1) := by decide +kernel
theorem dL_law_413 : decode cL_law 413 = .ok (.iconst 1, 1) := by decide +kernel
theorem dL_law_414 : decode cL_law 414 = .ok (.iadd, 1) := by decide +kernel
theorem dL_law_415 : decode cL_law 415 = .ok (.iaload, 1) := by decide +kernel
theorem dL_law_416 : decode cL_law 416 = .ok (.aload_n 0, 1) := by decide +kernel
theorem dL_law_417 : decode cL_law 417 = .ok (.iload_n 3, 1) := by decide +kernel
theorem dL_law_418 : decode cL_law 418 = .ok (.iconst 2, 1) := by decide +kernel
theorem dL_law_419 : decode cL_law 419 = .ok (.iadd, 1) := by decide +kernel
theorem dL_law_420 : decode cL_law 420 = .ok (.iaload, 1) := by decide +kernel
theorem dL_law_421 : decode cL_law 421 = .ok (.invokevirtual 54, 3) := by decide +kernel
theorem dL_law_424 : decode cL_law 424 = .ok (.if_icmp .eq 497, 3) := by decide +kernel
theorem dL_law_427 : decode cL_law 427 = .ok (.iconst 0, 1) := by decide +kernel
theorem dL_law_428 : decode cL_law 428 = .ok (.ireturn, 1) := by decide +kernel
theorem dL_law_429 : decode cL_law 429 = .ok (.aload_n 1, 1) := by decide +kernel
theorem dL_law_430 : decode cL_law 430 = .ok (.aload_n 0, 1) := by decide +kernel
theorem dL_law_431 : decode cL_law 431 = .ok (.iload_n 3, 1) := by decide +kernel
theorem dL_law_432 : decode cL_law 432 = .ok (.iconst 1, 1) := by decide +kernel
theorem dL_law_433 : decode cL_law 433 = .ok (.iadd, 1) := by decide +kernel
theorem dL_law_434 : decode cL_law 434 = .ok (.iaload, 1) := by decide +kernel
theorem dL_law_435 : decode cL_law 435 = .ok (.aload_n 0, 1) := by decide +kernel
theorem dL_law_436 : decode cL_law 436 = .ok (.iload_n 3, 1) := by decide +kernel
theorem dL_law_437 : decode cL_law 437 = .ok (.iconst 2, 1) := by decide +kernel
theorem dL_law_438 : decode cL_law 438 = .ok (.iadd, 1) := by decide +kernel
theorem dL_law_439 : decode cL_law 439 = .ok (.iaload, 1) := by decide +kernel
theorem dL_law_440 : decode cL_law 440 = .ok (.ifCond .eq 7, 3) := by decide +kernel
theorem dL_law_443 : decode cL_law 443 = .ok (.iconst 1, 1) := by decide +kernel
theorem dL_law_444 : decode cL_law 444 = .ok (.goto 4, 3) := by decide +kernel
theorem dL_law_447 : decode cL_law 447 = .ok (.iconst 0, 1) := by decide +kernel
theorem dL_law_448 : decode cL_law 448 = .ok (.invokevirtual 55, 3) := by decide +kernel
theorem dL_law_451 : decode cL_law 451 = .ok (.aload_n 2, 1) := by decide +kernel
theorem dL_law_452 : decode cL_law 452 = .ok (.aload_n 0, 1) := by decide +kernel
theorem dL_law_453 : decode cL_law 453 = .ok (.iload_n 3, 1) := by decide +kernel
theorem dL_law_454 : decode cL_law 454 = .ok (.iconst 1, 1) := by decide +kernel
theorem dL_law_455 : decode cL_law 455 = .ok (.iadd, 1) := by decide +kernel
theorem dL_law_456 : decode cL_law 456 = .ok (.iaload, 1) := by decide +kernel
theorem dL_law_457 : decode cL_law 457 = .ok (.aload_n 0, 1) := by decide +kernel
theorem dL_law_458 : decode cL_law 458 = .ok (.iload_n 3, 1) := by decide +kernel
theorem dL_law_459 : decode cL_law 459 = .ok (.iconst 2, 1) := by decide +kernel
theorem dL_law_460 : decode cL_law 460 = .ok (.iadd, 1) := by decide +kernel
theorem dL_law_461 : decode cL_law 461 = .ok (.iaload, 1) := by decide +kernel
theorem dL_law_462 : decode cL_law 462 = .ok (.ifCond .eq 7, 3) := by decide +kernel
theorem dL_law_465 : decode cL_law 465 = .ok (.iconst 1, 1) := by decide +kernel
theorem dL_law_466 : decode cL_law 466 = .ok (.goto 4, 3) := by decide +kernel
theorem dL_law_469 : decode cL_law 469 = .ok (.iconst 0, 1) := by decide +kernel
theorem dL_law_470 : decode cL_law 470 = .ok (.invokevirtual 58, 3) := by decide +kernel
theorem dL_law_473 : decode cL_law 473 = .ok (.if_icmp .eq 448, 3) := by decide +kernel
theorem dL_law_476 : decode cL_law 476 = .ok (.iconst 0, 1) := by decide +kernel
theorem dL_law_477 : decode cL_law 477 = .ok (.ireturn, 1) := by decide +kernel
theorem dL_law_478 : decode cL_law 478 = .ok (.aload_n 1, 1) := by decide +kernel
theorem dL_law_479 : decode cL_law 479 = .ok (.aload_n 0, 1) := by decide +kernel
theorem dL_law_480 : decode cL_law 480 = .ok (.iload_n 3, 1) := by decide +kernel
theorem dL_law_481 : decode cL_law 481 = .ok (.iconst 1, 1) := by decide +kernel
theorem dL_law_482 : decode cL_law 482 = .ok (.iadd, 1) := by decide +kernel
theorem dL_law_483 : decode cL_law 483 = .ok (.iaload, 1) := by decide +kernel
theorem dL_law_484 : decode cL_law 484 = .ok (.aload_n 0, 1) := by decide +kernel
theorem dL_law_485 : decode cL_law 485 = .ok (.iload_n 3, 1) := by decide +kernel
theorem dL_law_486 : decode cL_law 486 = .ok (.iconst 2, 1) := by decide +kernel
theorem dL_law_487 : decode cL_law 487 = .ok (.iadd, 1) := by decide +kernel
theorem dL_law_488 : decode cL_law 488 = .ok (.iaload, 1) := by decide +kernel
theorem dL_law_489 : decode cL_law 489 = .ok (.invokevirtual 59, 3) := by decide +kernel
theorem dL_law_492 : decode cL_law 492 = .ok (.aload_n 2, 1) := by decide +kernel
theorem dL_law_493 : decode cL_law 493 = .ok (.aload_n 0, 1) := by decide +kernel
theorem dL_law_494 : decode cL_law 494 = .ok (.iload_n 3, 1) := by decide +kernel
theorem dL_law_495 : decode cL_law 495 = .ok (.iconst 1, 1) := by decide +kernel
theorem dL_law_496 : decode cL_law 496 = .ok (.iadd, 1) := by decide +kernel
theorem dL_law_497 : decode cL_law 497 = .ok (.iaload, 1) := by decide +kernel
theorem dL_law_498 : decode cL_law 498 = .ok (.aload_n 0, 1) := by decide +kernel
theorem dL_law_499 : decode cL_law 499 = .ok (.iload_n 3, 1) := by decide +kernel
theorem dL_law_500 : decode cL_law 500 = .ok (.iconst 2, 1) := by decide +kernel
theorem dL_law_501 : decode cL_law 501 = .ok (.iadd, 1) := by decide +kernel
theorem dL_law_502 : decode cL_law 502 = .ok (.iaload, 1) := by decide +kernel
theorem dL_law_503 : decode cL_law 503 = .ok (.invokevirtual 62, 3) := by decide +kernel
theorem dL_law_506 : decode cL_law 506 = .ok (.if_icmp .eq 415, 3) := by decide +kernel
theorem dL_law_509 : decode cL_law 509 = .ok (.iconst 0, 1) := by decide +kernel
theorem dL_law_510 : decode cL_law 510 = .ok (.ireturn, 1) := by decide +kernel
theorem dL_law_511 : decode cL_law 511 = .ok (.aload_n 1, 1) := by decide +kernel
theorem dL_law_512 : decode cL_law 512 = .ok (.aload_n 0, 1) := by decide +kernel
theorem dL_law_513 : decode cL_law 513 = .ok (.iload_n 3, 1) := by decide +kernel
theorem dL_law_514 : decode cL_law 514 = .ok (.iconst 1, 1) := by decide +kernel
theorem dL_law_515 : decode cL_law 515 = .ok (.iadd, 1) := by decide +kernel
theorem dL_law_516 : decode cL_law 516 = .ok (.iaload, 1) := by decide +kernel
theorem dL_law_517 : decode cL_law 517 = .ok (.aload_n 0, 1) := by decide +kernel
theorem dL_law_518 : decode cL_law 518 = .ok (.iload_n 3, 1) := by decide +kernel
theorem dL_law_519 : decode cL_law 519 = .ok (.iconst 2, 1) := by decide +kernel
theorem dL_law_520 : decode cL_law 520 = .ok (.iadd, 1) := by decide +kernel
theorem dL_law_521 : decode cL_law 521 = .ok (.iaload, 1) := by decide +kernel
theorem dL_law_522 : decode cL_law 522 = .ok (.invokevirtual 63, 3) := by decide +kernel
theorem dL_law_525 : decode cL_law 525 = .ok (.aload_n 2, 1) := by decide +kernel
theorem dL_law_526 : decode cL_law 526 = .ok (.aload_n 0, 1) := by decide +kernel
theorem dL_law_527 : decode cL_law 527 = .ok (.iload_n 3, 1) := by decide +kernel
theorem dL_law_528 : decode cL_law 528 = .ok (.iconst 1, 1) := by decide +kernel
theorem dL_law_529 : decode cL_law 529 = .ok (.iadd, 1) := by decide +kernel
theorem dL_law_530 : decode cL_law 530 = .ok (.iaload, 1) := by decide +kernel
theorem dL_law_531 : decode cL_law 531 = .ok (.aload_n 0, 1) := by decide +kernel
theorem dL_law_532 : decode cL_law 532 = .ok (.iload_n 3, 1) := by decide +kernel
theorem dL_law_533 : decode cL_law 533 = .ok (.iconst 2, 1) := by decide +kernel
theorem dL_law_534 : decode cL_law 534 = .ok (.iadd, 1) := by decide +kernel
theorem dL_law_535 : decode cL_law 535 = .ok (.iaload, 1) := by decide +kernel
theorem dL_law_536 : decode cL_law 536 = .ok (.invokevirtual 66, 3) := by decide +kernel
theorem dL_law_539 : decode cL_law 539 = .ok (.if_icmp .eq 382, 3) := by decide +kernel
theorem dL_law_542 : decode cL_law 542 = .ok (.iconst 0, 1) := by decide +kernel
theorem dL_law_543 : decode cL_law 543 = .ok (.ireturn, 1) := by decide +kernel
theorem dL_law_544 : decode cL_law 544 = .ok (.aload_n 1, 1) := by decide +kernel
theorem dL_law_545 : decode cL_law 545 = .ok (.aload_n 0, 1) := by decide +kernel
theorem dL_law_546 : decode cL_law 546 = .ok (.iload_n 3, 1) := by decide +kernel
theorem dL_law_547 : decode cL_law 547 = .ok (.iconst 1, 1) := by decide +kernel
theorem dL_law_548 : decode cL_law 548 = .ok (.iadd, 1) := by decide +kernel
theorem dL_law_549 : decode cL_law 549 = .ok (.iaload, 1) := by decide +kernel
theorem dL_law_550 : decode cL_law 550 = .ok (.invokevirtual 67, 3) := by decide +kernel
theorem dL_law_553 : decode cL_law 553 = .ok (.aload_n 2, 1) := by decide +kernel
theorem dL_law_554 : decode cL_law 554 = .ok (.aload_n 0, 1) := by decide +kernel
theorem dL_law_555 : decode cL_law 555 = .ok (.iload_n 3, 1) := by decide +kernel
theorem dL_law_556 : decode cL_law 556 = .ok (.iconst 1, 1) := by decide +kernel
theorem dL_law_557 : decode cL_law 557 = .ok (.iadd, 1) := by decide +kernel
theorem dL_law_558 : decode cL_law 558 = .ok (.iaload, 1) := by decide +kernel
theorem dL_law_559 : decode cL_law 559 = .ok (.invokevirtual 71, 3) := by decide +kernel
theorem dL_law_562 : decode cL_law 562 = .ok (.if_icmp .eq 359, 3) := by decide +kernel
theorem dL_law_565 : decode cL_law 565 = .ok (.iconst 0, 1) := by decide +kernel
theorem dL_law_566 : decode cL_law 566 = .ok (.ireturn, 1) := by decide +kernel
theorem dL_law_567 : decode cL_law 567 = .ok (.aload_n 1, 1) := by decide +kernel
theorem dL_law_568 : decode cL_law 568 = .ok (.invokevirtual 72, 3) := by decide +kernel
theorem dL_law_571 : decode cL_law 571 = .ok (.aload_n 2, 1) := by decide +kernel
theorem dL_law_572 : decode cL_law 572 = .ok (.invokevirtual 75, 3) := by decide +kernel
theorem dL_law_575 : decode cL_law 575 = .ok (.if_icmp .eq 346, 3) := by decide +kernel
theorem dL_law_578 : decode cL_law 578 = .ok (.iconst 0, 1) := by decide +kernel
theorem dL_law_579 : decode cL_law 579 = .ok (.ireturn, 1) := by decide +kernel
theorem dL_law_580 : decode cL_law 580 = .ok (.aload_n 1, 1) := by decide +kernel
theorem dL_law_581 : decode cL_law 581 = .ok (.aload_n 0, 1) := by decide +kernel
theorem dL_law_582 : decode cL_law 582 = .ok (.iload_n 3, 1) := by decide +kernel
theorem dL_law_583 : decode cL_law 583 = .ok (.iconst 1, 1) := by decide +kernel
theorem dL_law_584 : decode cL_law 584 = .ok (.iadd, 1) := by decide +kernel
theorem dL_law_585 : decode cL_law 585 = .ok (.iaload, 1) := by decide +kernel
theorem dL_law_586 : decode cL_law 586 = .ok (.aload_n 0, 1) := by decide +kernel
theorem dL_law_587 : decode cL_law 587 = .ok (.iload_n 3, 1) := by decide +kernel
theorem dL_law_588 : decode cL_law 588 = .ok (.iconst 2, 1) := by decide +kernel
theorem dL_law_589 : decode cL_law 589 = .ok (.iadd, 1) := by decide +kernel
theorem dL_law_590 : decode cL_law 590 = .ok (.iaload, 1) := by decide +kernel
theorem dL_law_591 : decode cL_law 591 = .ok (.invokevirtual 76, 3) := by decide +kernel
theorem dL_law_594 : decode cL_law 594 = .ok (.aload_n 2, 1) := by decide +kernel
theorem dL_law_595 : decode cL_law 595 = .ok (.aload_n 0, 1) := by decide +kernel
theorem dL_law_596 : decode cL_law 596 = .ok (.iload_n 3, 1) := by decide +kernel
theorem dL_law_597 : decode cL_law 597 = .ok (.iconst 1, 1) := by decide +kernel
theorem dL_law_598 : decode cL_law 598 = .ok (.iadd, 1) := by decide +kernel
theorem dL_law_599 : decode cL_law 599 = .ok (.iaload, 1) := by decide +kernel
theorem dL_law_600 : decode cL_law 600 = .ok (.aload_n 0, 1) := by decide +kernel
theorem dL_law_601 : decode cL_law 601 = .ok (.iload_n 3, 1) := by decide +kernel
theorem dL_law_602 : decode cL_law 602 = .ok (.iconst 2, 1) := by decide +kernel
theorem dL_law_603 : decode cL_law 603 = .ok (.iadd, 1) := by decide +kernel
theorem dL_law_604 : decode cL_law 604 = .ok (.iaload, 1) := by decide +kernel
theorem dL_law_605 : decode cL_law 605 = .ok (.invokevirtual 79, 3) := by decide +kernel
theorem dL_law_608 : decode cL_law 608 = .ok (.if_icmp .eq 313, 3) := by decide +kernel
theorem dL_law_611 : decode cL_law 611 = .ok (.iconst 0, 1) := by decide +kernel
theorem dL_law_612 : decode cL_law 612 = .ok (.ireturn, 1) := by decide +kernel
theorem dL_law_613 : decode cL_law 613 = .ok (.aload_n 1, 1) := by decide +kernel
theorem dL_law_614 : decode cL_law 614 = .ok (.aload_n 0, 1) := by decide +kernel
theorem dL_law_615 : decode cL_law 615 = .ok (.iload_n 3, 1) := by decide +kernel
theorem dL_law_616 : decode cL_law 616 = .ok (.iconst 1, 1) := by decide +kernel
theorem dL_law_617 : decode cL_law 617 = .ok (.iadd, 1) := by decide +kernel
theorem dL_law_618 : decode cL_law 618 = .ok (.iaload, 1) := by decide +kernel
theorem dL_law_619 : decode cL_law 619 = .ok (.aload_n 0, 1) := by decide +kernel
theorem dL_law_620 : decode cL_law 620 = .ok (.iload_n 3, 1) := by decide +kernel
theorem dL_law_621 : decode cL_law 621 = .ok (.iconst 2, 1) := by decide +kernel
theorem dL_law_622 : decode cL_law 622 = .ok (.iadd, 1) := by decide +kernel
theorem dL_law_623 : decode cL_law 623 = .ok (.iaload, 1) := by decide +kernel
theorem dL_law_624 : decode cL_law 624 = .ok (.aload_n 0, 1) := by decide +kernel
theorem dL_law_625 : decode cL_law 625 = .ok (.iload_n 3, 1) := by decide +kernel
theorem dL_law_626 : decode cL_law 626 = .ok (.iconst 3, 1) := by decide +kernel
theorem dL_law_627 : decode cL_law 627 = .ok (.iadd, 1) := by decide +kernel
theorem dL_law_628 : decode cL_law 628 = .ok (.iaload, 1) := by decide +kernel
theorem dL_law_629 : decode cL_law 629 = .ok (.aload_n 0, 1) := by decide +kernel
theorem dL_law_630 : decode cL_law 630 = .ok (.iload_n 3, 1) := by decide +kernel
theorem dL_law_631 : decode cL_law 631 = .ok (.iconst 4, 1) := by decide +kernel
theorem dL_law_632 : decode cL_law 632 = .ok (.iadd, 1) := by decide +kernel
theorem dL_law_633 : decode cL_law 633 = .ok (.iaload, 1) := by decide +kernel
theorem dL_law_634 : decode cL_law 634 = .ok (.invokevirtual 80, 3) := by decide +kernel
theorem dL_law_637 : decode cL_law 637 = .ok (.aload_n 2, 1) := by decide +kernel
theorem dL_law_638 : decode cL_law 638 = .ok (.aload_n 0, 1) := by decide +kernel
theorem dL_law_639 : decode cL_law 639 = .ok (.iload_n 3, 1) := by decide +kernel
theorem dL_law_640 : decode cL_law 640 = .ok (.iconst 1, 1) := by decide +kernel
theorem dL_law_641 : decode cL_law 641 = .ok (.iadd, 1) := by decide +kernel
theorem dL_law_642 : decode cL_law 642 = .ok (.iaload, 1) := by decide +kernel
theorem dL_law_643 : decode cL_law 643 = .ok (.aload_n 0, 1) := by decide +kernel
theorem dL_law_644 : decode cL_law 644 = .ok (.iload_n 3, 1) := by decide +kernel
theorem dL_law_645 : decode cL_law 645 = .ok (.iconst 2, 1) := by decide +kernel
theorem dL_law_646 : decode cL_law 646 = .ok (.iadd, 1) := by decide +kernel
theorem dL_law_647 : decode cL_law 647 = .ok (.iaload, 1) := by decide +kernel
theorem dL_law_648 : decode cL_law 648 = .ok (.aload_n 0, 1) := by decide +kernel
theorem dL_law_649 : decode cL_law 649 = .ok (.iload_n 3, 1) := by decide +kernel
theorem dL_law_650 : decode cL_law 650 = .ok (.iconst 3, 1) := by decide +kernel
theorem dL_law_651 : decode cL_law 651 = .ok (.iadd, 1) := by decide +kernel
theorem dL_law_652 : decode cL_law 652 = .ok (.iaload, 1) := by decide +kernel
theorem dL_law_653 : decode cL_law 653 = .ok (.aload_n 0, 1) := by decide +kernel
theorem dL_law_654 : decode cL_law 654 = .ok (.iload_n 3, 1) := by decide +kernel
theorem dL_law_655 : decode cL_law 655 = .ok (.iconst 4, 1) := by decide +kernel
theorem dL_law_656 : decode cL_law 656 = .ok (.iadd, 1) := by decide +kernel
theorem dL_law_657 : decode cL_law 657 = .ok (.iaload, 1) := by decide +kernel
theorem dL_law_658 : decode cL_law 658 = .ok (.invokevirtual 84, 3) := by decide +kernel
theorem dL_law_661 : decode cL_law 661 = .ok (.lcmp, 1) := by decide +kernel
theorem dL_law_662 : decode cL_law 662 = .ok (.ifCond .eq 259, 3) := by decide +kernel
theorem dL_law_665 : decode cL_law 665 = .ok (.iconst 0, 1) := by decide +kernel
theorem dL_law_666 : decode cL_law 666 = .ok (.ireturn, 1) := by decide +kernel
theorem dL_law_667 : decode cL_law 667 = .ok (.aload_n 1, 1) := by decide +kernel
theorem dL_law_668 : decode cL_law 668 = .ok (.aload_n 0, 1) := by decide +kernel
theorem dL_law_669 : decode cL_law 669 = .ok (.iload_n 3, 1) := by decide +kernel
theorem dL_law_670 : decode cL_law 670 = .ok (.iconst 1, 1) := by decide +kernel
theorem dL_law_671 : decode cL_law 671 = .ok (.iadd, 1) := by decide +kernel
theorem dL_law_672 : decode cL_law 672 = .ok (.iaload, 1) := by decide +kernel
theorem dL_law_673 : decode cL_law 673 = .ok (.aload_n 0, 1) := by decide +kernel
theorem dL_law_674 : decode cL_law 674 = .ok (.iload_n 3, 1) := by decide +kernel
theorem dL_law_675 : decode cL_law 675 = .ok (.iconst 2, 1) := by decide +kernel
theorem dL_law_676 : decode cL_law 676 = .ok (.iadd, 1) := by decide +kernel
theorem dL_law_677 : decode cL_law 677 = .ok (.iaload, 1) := by decide +kernel
theorem dL_law_678 : decode cL_law 678 = .ok (.aload_n 0, 1) := by decide +kernel
theorem dL_law_679 : decode cL_law 679 = .ok (.iload_n 3, 1) := by decide +kernel
theorem dL_law_680 : decode cL_law 680 = .ok (.iconst 3, 1) := by decide +kernel
theorem dL_law_681 : decode cL_law 681 = .ok (.iadd, 1) := by decide +kernel
theorem dL_law_682 : decode cL_law 682 = .ok (.iaload, 1) := by decide +kernel
theorem dL_law_683 : decode cL_law 683 = .ok (.invokevirtual 85, 3) := by decide +kernel
theorem dL_law_686 : decode cL_law 686 = .ok (.aload_n 2, 1) := by decide +kernel
theorem dL_law_687 : decode cL_law 687 = .ok (.aload_n 0, 1) := by decide +kernel
theorem dL_law_688 : decode cL_law 688 = .ok (.iload_n 3, 1) := by decide +kernel
theorem dL_law_689 : decode cL_law 689 = .ok (.iconst 1, 1) := by decide +kernel
theorem dL_law_690 : decode cL_law 690 = .ok (.iadd, 1) := by decide +kernel
theorem dL_law_691 : decode cL_law 691 = .ok (.iaload, 1) := by decide +kernel
theorem dL_law_692 : decode cL_law 692 = .ok (.aload_n 0, 1) := by decide +kernel
theorem dL_law_693 : decode cL_law 693 = .ok (.iload_n 3, 1) := by decide +kernel
theorem dL_law_694 : decode cL_law 694 = .ok (.iconst 2, 1) := by decide +kernel
theorem dL_law_695 : decode cL_law 695 = .ok (.iadd, 1) := by decide +kernel
theorem dL_law_696 : decode cL_law 696 = .ok (.iaload, 1) := by decide +kernel
theorem dL_law_697 : decode cL_law 697 = .ok (.aload_n 0, 1) := by decide +kernel
theorem dL_law_698 : decode cL_law 698 = .ok (.iload_n 3, 1) := by decide +kernel
theorem dL_law_699 : decode cL_law 699 = .ok (.iconst 3, 1) := by decide +kernel
theorem dL_law_700 : decode cL_law 700 = .ok (.iadd, 1) := by decide +kernel
theorem dL_law_701 : decode cL_law 701 = .ok (.iaload, 1) := by decide +kernel
theorem dL_law_702 : decode cL_law 702 = .ok (.invokevirtual 89, 3) := by decide +kernel
theorem dL_law_705 : decode cL_law 705 = .ok (.if_icmp .eq 216, 3) := by decide +kernel
theorem dL_law_708 : decode cL_law 708 = .ok (.iconst 0, 1) := by decide +kernel
theorem dL_law_709 : decode cL_law 709 = .ok (.ireturn, 1) := by decide +kernel
theorem dL_law_710 : decode cL_law 710 = .ok (.aload_n 1, 1) := by decide +kernel
theorem dL_law_711 : decode cL_law 711 = .ok (.invokevirtual 90, 3) := by decide +kernel
theorem dL_law_714 : decode cL_law 714 = .ok (.aload_n 2, 1) := by decide +kernel
theorem dL_law_715 : decode cL_law 715 = .ok (.invokevirtual 93, 3) := by decide +kernel
theorem dL_law_718 : decode cL_law 718 = .ok (.if_icmp .eq 203, 3) := by decide +kernel
theorem dL_law_721 : decode cL_law 721 = .ok (.iconst 0, 1) := by decide +kernel
theorem dL_law_722 : decode cL_law 722 = .ok (.ireturn, 1) := by decide +kernel
theorem dL_law_723 : decode cL_law 723 = .ok (.aload_n 1, 1) := by decide +kernel
theorem dL_law_724 : decode cL_law 724 = .ok (.aload_n 0, 1) := by decide +kernel
theorem dL_law_725 : decode cL_law 725 = .ok (.iload_n 3, 1) := by decide +kernel
theorem dL_law_726 : decode cL_law 726 = .ok (.iconst 1, 1) := by decide +kernel
theorem dL_law_727 : decode cL_law 727 = .ok (.iadd, 1) := by decide +kernel
theorem dL_law_728 : decode cL_law 728 = .ok (.iaload, 1) := by decide +kernel
theorem dL_law_729 : decode cL_law 729 = .ok (.aload_n 0, 1) := by decide +kernel
theorem dL_law_730 : decode cL_law 730 = .ok (.iload_n 3, 1) := by decide +kernel
theorem dL_law_731 : decode cL_law 731 = .ok (.iconst 2, 1) := by decide +kernel
theorem dL_law_732 : decode cL_law 732 = .ok (.iadd, 1) := by decide +kernel
theorem dL_law_733 : decode cL_law 733 = .ok (.iaload, 1) := by decide +kernel
theorem dL_law_734 : decode cL_law 734 = .ok (.invokevirtual 94, 3) := by decide +kernel
theorem dL_law_737 : decode cL_law 737 = .ok (.aload_n 2, 1) := by decide +kernel
theorem dL_law_738 : decode cL_law 738 = .ok (.aload_n 0, 1) := by decide +kernel
theorem dL_law_739 : decode cL_law 739 = .ok (.iload_n 3, 1) := by decide +kernel
theorem dL_law_740 : decode cL_law 740 = .ok (.iconst 1, 1) := by decide +kernel
theorem dL_law_741 : decode cL_law 741 = .ok (.iadd, 1) := by decide +kernel
theorem dL_law_742 : decode cL_law 742 = .ok (.iaload, 1) := by decide +kernel
theorem dL_law_743 : decode cL_law 743 = .ok (.aload_n 0, 1) := by decide +kernel
theorem dL_law_744 : decode cL_law 744 = .ok (.iload_n 3, 1) := by decide +kernel
theorem dL_law_745 : decode cL_law 745 = .ok (.iconst 2, 1) := by decide +kernel
theorem dL_law_746 : decode cL_law 746 = .ok (.iadd, 1) := by decide +kernel
theorem dL_law_747 : decode cL_law 747 = .ok (.iaload, 1) := by decide +kernel
theorem dL_law_748 : decode cL_law 748 = .ok (.invokevirtual 97, 3) := by decide +kernel
theorem dL_law_751 : decode cL_law 751 = .ok (.if_icmp .eq 170, 3) := by decide +kernel
theorem dL_law_754 : decode cL_law 754 = .ok (.iconst 0, 1) := by decide +kernel
theorem dL_law_755 : decode cL_law 755 = .ok (.ireturn, 1) := by decide +kernel
theorem dL_law_756 : decode cL_law 756 = .ok (.aload_n 1, 1) := by decide +kernel
theorem dL_law_757 : decode cL_law 757 = .ok (.invokevirtual 98, 3) := by decide +kernel
theorem dL_law_760 : decode cL_law 760 = .ok (.aload_n 2, 1) := by decide +kernel
theorem dL_law_761 : decode cL_law 761 = .ok (.invokevirtual 101, 3) := by decide +kernel
theorem dL_law_764 : decode cL_law 764 = .ok (.if_icmp .eq 157, 3) := by decide +kernel
theorem dL_law_767 : decode cL_law 767 = .ok (.iconst 0, 1) := by decide +kernel
theorem dL_law_768 : decode cL_law 768 = .ok (.ireturn, 1) := by decide +kernel
theorem dL_law_769 : decode cL_law 769 = .ok (.aload_n 1, 1) := by decide +kernel
theorem dL_law_770 : decode cL_law 770 = .ok (.aload_n 0, 1) := by decide +kernel
theorem dL_law_771 : decode cL_law 771 = .ok (.iload_n 3, 1) := by decide +kernel
theorem dL_law_772 : decode cL_law 772 = .ok (.iconst 1, 1) := by decide +kernel
theorem dL_law_773 : decode cL_law 773 = .ok (.iadd, 1) := by decide +kernel
theorem dL_law_774 : decode cL_law 774 = .ok (.iaload, 1) := by decide +kernel
theorem dL_law_775 : decode cL_law 775 = .ok (.aload_n 0, 1) := by decide +kernel
theorem dL_law_776 : decode cL_law 776 = .ok (.iload_n 3, 1) := by decide +kernel
theorem dL_law_777 : decode cL_law 777 = .ok (.iconst 2, 1) := by decide +kernel
theorem dL_law_778 : decode cL_law 778 = .ok (.iadd, 1) := by decide +kernel
theorem dL_law_779 : decode cL_law 779 = .ok (.iaload, 1) := by decide +kernel
theorem dL_law_780 : decode cL_law 780 = .ok (.invokevirtual 102, 3) := by decide +kernel
theorem dL_law_783 : decode cL_law 783 = .ok (.aload_n 2, 1) := by decide +kernel
theorem dL_law_784 : decode cL_law 784 = .ok (.aload_n 0, 1) := by decide +kernel
theorem dL_law_785 : decode cL_law 785 = .ok (.iload_n 3, 1) := by decide +kernel
theorem dL_law_786 : decode cL_law 786 = .ok (.iconst 1, 1) := by decide +kernel
theorem dL_law_787 : decode cL_law 787 = .ok (.iadd, 1) := by decide +kernel
theorem dL_law_788 : decode cL_law 788 = .ok (.iaload, 1) := by decide +kernel
theorem dL_law_789 : decode cL_law 789 = .ok (.aload_n 0, 1) := by decide +kernel
theorem dL_law_790 : decode cL_law 790 = .ok (.iload_n 3, 1) := by decide +kernel
theorem dL_law_791 : decode cL_law 791 = .ok (.iconst 2, 1) := by decide +kernel
theorem dL_law_792 : decode cL_law 792 = .ok (.iadd, 1) := by decide +kernel
theorem dL_law_793 : decode cL_law 793 = .ok (.iaload, 1) := by decide +kernel
theorem dL_law_794 : decode cL_law 794 = .ok (.invokevirtual 105, 3) := by decide +kernel
theorem dL_law_797 : decode cL_law 797 = .ok (.if_icmp .eq 124, 3) := by decide +kernel
theorem dL_law_800 : decode cL_law 800 = .ok (.iconst 0, 1) := by decide +kernel
theorem dL_law_801 : decode cL_law 801 = .ok (.ireturn, 1) := by decide +kernel
theorem dL_law_802 : decode cL_law 802 = .ok (.aload_n 1, 1) := by decide +kernel
theorem dL_law_803 : decode cL_law 803 = .ok (.invokevirtual 106, 3) := by decide +kernel
theorem dL_law_806 : decode cL_law 806 = .ok (.aload_n 2, 1) := by decide +kernel
theorem dL_law_807 : decode cL_law 807 = .ok (.invokevirtual 109, 3) := by decide +kernel
theorem dL_law_810 : decode cL_law 810 = .ok (.if_icmp .eq 111, 3) := by decide +kernel
theorem dL_law_813 : decode cL_law 813 = .ok (.iconst 0, 1) := by decide +kernel
theorem dL_law_814 : decode cL_law 814 = .ok (.ireturn, 1) := by decide +kernel
theorem dL_law_815 : decode cL_law 815 = .ok (.aload_n 1, 1) := by decide +kernel
theorem dL_law_816 : decode cL_law 816 = .ok (.aload_n 0, 1) := by decide +kernel
theorem dL_law_817 : decode cL_law 817 = .ok (.iload_n 3, 1) := by decide +kernel
theorem dL_law_818 : decode cL_law 818 = .ok (.iconst 1, 1) := by decide +kernel
theorem dL_law_819 : decode cL_law 819 = .ok (.iadd, 1) := by decide +kernel
theorem dL_law_820 : decode cL_law 820 = .ok (.iaload, 1) := by decide +kernel
theorem dL_law_821 : decode cL_law 821 = .ok (.aload_n 0, 1) := by decide +kernel
theorem dL_law_822 : decode cL_law 822 = .ok (.iload_n 3, 1) := by decide +kernel
theorem dL_law_823 : decode cL_law 823 = .ok (.iconst 2, 1) := by decide +kernel
theorem dL_law_824 : decode cL_law 824 = .ok (.iadd, 1) := by decide +kernel
theorem dL_law_825 : decode cL_law 825 = .ok (.iaload, 1) := by decide +kernel
theorem dL_law_826 : decode cL_law 826 = .ok (.aload_n 0, 1) := by decide +kernel
theorem dL_law_827 : decode cL_law 827 = .ok (.iload_n 3, 1) := by decide +kernel
theorem dL_law_828 : decode cL_law 828 = .ok (.iconst 3, 1) := by decide +kernel
theorem dL_law_829 : decode cL_law 829 = .ok (.iadd, 1) := by decide +kernel
theorem dL_law_830 : decode cL_law 830 = .ok (.iaload, 1) := by decide +kernel
theorem dL_law_831 : decode cL_law 831 = .ok (.invokevirtual 110, 3) := by decide +kernel
theorem dL_law_834 : decode cL_law 834 = .ok (.aload_n 2, 1) := by decide +kernel
theorem dL_law_835 : decode cL_law 835 = .ok (.aload_n 0, 1) := by decide +kernel
theorem dL_law_836 : decode cL_law 836 = .ok (.iload_n 3, 1) := by decide +kernel
theorem dL_law_837 : decode cL_law 837 = .ok (.iconst 1, 1) := by decide +kernel
theorem dL_law_838 : decode cL_law 838 = .ok (.iadd, 1) := by decide +kernel
theorem dL_law_839 : decode cL_law 839 = .ok (.iaload, 1) := by decide +kernel
theorem dL_law_840 : decode cL_law 840 = .ok (.aload_n 0, 1) := by decide +kernel
theorem dL_law_841 : decode cL_law 841 = .ok (.iload_n 3, 1) := by decide +kernel
theorem dL_law_842 : decode cL_law 842 = .ok (.iconst 2, 1) := by decide +kernel
theorem dL_law_843 : decode cL_law 843 = .ok (.iadd, 1) := by decide +kernel
theorem dL_law_844 : decode cL_law 844 = .ok (.iaload, 1) := by decide +kernel
theorem dL_law_845 : decode cL_law 845 = .ok (.aload_n 0, 1) := by decide +kernel
theorem dL_law_846 : decode cL_law 846 = .ok (.iload_n 3, 1) := by decide +kernel
theorem dL_law_847 : decode cL_law 847 = .ok (.iconst 3, 1) := by decide +kernel
theorem dL_law_848 : decode cL_law 848 = .ok (.iadd, 1) := by decide +kernel
theorem dL_law_849 : decode cL_law 849 = .ok (.iaload, 1) := by decide +kernel
theorem dL_law_850 : decode cL_law 850 = .ok (.invokevirtual 113, 3) := by decide +kernel
theorem dL_law_853 : decode cL_law 853 = .ok (.if_icmp .eq 68, 3) := by decide +kernel
theorem dL_law_856 : decode cL_law 856 = .ok (.iconst 0, 1) := by decide +kernel
theorem dL_law_857 : decode cL_law 857 = .ok (.ireturn, 1) := by decide +kernel
theorem dL_law_858 : decode cL_law 858 = .ok (.aload_n 1, 1) := by decide +kernel
theorem dL_law_859 : decode cL_law 859 = .ok (.invokevirtual 114, 3) := by decide +kernel
theorem dL_law_862 : decode cL_law 862 = .ok (.aload_n 2, 1) := by decide +kernel
theorem dL_law_863 : decode cL_law 863 = .ok (.invokevirtual 117, 3) := by decide +kernel
theorem dL_law_866 : decode cL_law 866 = .ok (.if_icmp .eq 55, 3) := by decide +kernel
theorem dL_law_869 : decode cL_law 869 = .ok (.iconst 0, 1) := by decide +kernel
theorem dL_law_870 : decode cL_law 870 = .ok (.ireturn, 1) := by decide +kernel
theorem dL_law_871 : decode cL_law 871 = .ok (.aload_n 1, 1) := by decide +kernel
theorem dL_law_872 : decode cL_law 872 = .ok (.invokevirtual 118, 3) := by decide +kernel
theorem dL_law_875 : decode cL_law 875 = .ok (.aload_n 2, 1) := by decide +kernel
theorem dL_law_876 : decode cL_law 876 = .ok (.invokevirtual 121, 3) := by decide +kernel
theorem dL_law_879 : decode cL_law 879 = .ok (.if_icmp .eq 42, 3) := by decide +kernel
theorem dL_law_882 : decode cL_law 882 = .ok (.iconst 0, 1) := by decide +kernel
theorem dL_law_883 : decode cL_law 883 = .ok (.ireturn, 1) := by decide +kernel
theorem dL_law_884 : decode cL_law 884 = .ok (.aload_n 1, 1) := by decide +kernel
theorem dL_law_885 : decode cL_law 885 = .ok (.aload_n 0, 1) := by decide +kernel
theorem dL_law_886 : decode cL_law 886 = .ok (.iload_n 3, 1) := by decide +kernel
theorem dL_law_887 : decode cL_law 887 = .ok (.iconst 1, 1) := by decide +kernel
theorem dL_law_888 : decode cL_law 888 = .ok (.iadd, 1) := by decide +kernel
theorem dL_law_889 : decode cL_law 889 = .ok (.iaload, 1) := by decide +kernel
theorem dL_law_890 : decode cL_law 890 = .ok (.invokevirtual 122, 3) := by decide +kernel
theorem dL_law_893 : decode cL_law 893 = .ok (.aload_n 2, 1) := by decide +kernel
theorem dL_law_894 : decode cL_law 894 = .ok (.aload_n 0, 1) := by decide +kernel
theorem dL_law_895 : decode cL_law 895 = .ok (.iload_n 3, 1) := by decide +kernel
theorem dL_law_896 : decode cL_law 896 = .ok (.iconst 1, 1) := by decide +kernel
theorem dL_law_897 : decode cL_law 897 = .ok (.iadd, 1) := by decide +kernel
theorem dL_law_898 : decode cL_law 898 = .ok (.iaload, 1) := by decide +kernel
theorem dL_law_899 : decode cL_law 899 = .ok (.invokevirtual 125, 3) := by decide +kernel
theorem dL_law_902 : decode cL_law 902 = .ok (.if_icmp .eq 19, 3) := by decide +kernel
theorem dL_law_905 : decode cL_law 905 = .ok (.iconst 0, 1) := by decide +kernel
theorem dL_law_906 : decode cL_law 906 = .ok (.ireturn, 1) := by decide +kernel
theorem dL_law_907 : decode cL_law 907 = .ok (.aload_n 1, 1) := by decide +kernel
theorem dL_law_908 : decode cL_law 908 = .ok (.invokevirtual 126, 3) := by decide +kernel
theorem dL_law_911 : decode cL_law 911 = .ok (.aload_n 2, 1) := by decide +kernel
theorem dL_law_912 : decode cL_law 912 = .ok (.invokevirtual 130, 3) := by decide +kernel
theorem dL_law_915 : decode cL_law 915 = .ok (.lcmp, 1) := by decide +kernel
theorem dL_law_916 : decode cL_law 916 = .ok (.ifCond .eq 5, 3) := by decide +kernel
theorem dL_law_919 : decode cL_law 919 = .ok (.iconst 0, 1) := by decide +kernel
theorem dL_law_920 : decode cL_law 920 = .ok (.ireturn, 1) := by decide +kernel
theorem dL_law_921 : decode cL_law 921 = .ok (.iinc 3 5, 3) := by decide +kernel
theorem dL_law_924 : decode cL_law 924 = .ok (.goto (-906), 3) := by decide +kernel
theorem dL_law_927 : decode cL_law 927 = .ok (.iconst 1, 1) := by decide +kernel
theorem dL_law_928 : decode cL_law 928 = .ok (.ireturn, 1) := by decide +kernel
end
section
/-! the memory: how many cells, the shape of each, its ints, its longs, its references; cells are told by their numbers from the law's start on -/
abbrev Sh : Type := Nat ⊕ (Nat × Nat)
abbrev Mm : Type := Nat × (Nat → Sh) × (Nat → Nat → Int32) × (Nat → Nat → Int64) × (Nat → Nat → Option Nat)
def mN (M : Mm) : Nat := M.1
def mT (M : Mm) : Nat → Sh := M.2.1
def mI (M : Mm) : Nat → Nat → Int32 := M.2.2.1
def mL (M : Mm) : Nat → Nat → Int64 := M.2.2.2.1
def mR (M : Mm) : Nat → Nat → Option Nat := M.2.2.2.2
def sI (M : Mm) (a k : Nat) (v : Int32) : Mm := (M.1, M.2.1, va_up M.2.2.1 a (va_up (M.2.2.1 a) k v), M.2.2.2.1, M.2.2.2.2)
def sL (M : Mm) (a k : Nat) (v : Int64) : Mm := (M.1, M.2.1, M.2.2.1, va_up M.2.2.2.1 a (va_up (M.2.2.2.1 a) k v), M.2.2.2.2)
def sR (M : Mm) (a k : Nat) (v : Option Nat) : Mm := (M.1, M.2.1, M.2.2.1, M.2.2.2.1, va_up M.2.2.2.2 a (va_up (M.2.2.2.2 a) k v))
def aN (M : Mm) (sh : Sh) : Mm := (M.1 + 1, va_up M.2.1 M.1 sh, va_up M.2.2.1 M.1 (fun _ => 0), va_up M.2.2.2.1 M.1 (fun _ => 0), va_up M.2.2.2.2 M.1 (fun _ => none))
theorem mN_sI (M : Mm) (a k : Nat) (v : Int32) : mN (sI M a k v) = mN M := rfl
theorem mT_sI (M : Mm) (a k : Nat) (v : Int32) : mT (sI M a k v) = mT M := rfl
theorem mL_sI (M : Mm) (a k : Nat) (v : Int32) : mL (sI M a k v) = mL M := rfl
theorem mR_sI (M : Mm) (a k : Nat) (v : Int32) : mR (sI M a k v) = mR M := rfl
theorem mI_sI (M : Mm) (a k : Nat) (v : Int32) : mI (sI M a k v) a = va_up (mI M a) k v := by simp [mI, sI, va_up]
theorem mI_sI_ne {M : Mm} {a k b : Nat} {v : Int32} (h : b ≠ a) : mI (sI M a k v) b = mI M b := by simp [mI, sI, va_up, h]
theorem mN_sL (M : Mm) (a k : Nat) (v : Int64) : mN (sL M a k v) = mN M := rfl
theorem mT_sL (M : Mm) (a k : Nat) (v : Int64) : mT (sL M a k v) = mT M := rfl
theorem mI_sL (M : Mm) (a k : Nat) (v : Int64) : mI (sL M a k v) = mI M := rfl
theorem mR_sL (M : Mm) (a k : Nat) (v : Int64) : mR (sL M a k v) = mR M := rfl
theorem mL_sL (M : Mm) (a k : Nat) (v : Int64) : mL (sL M a k v) a = va_up (mL M a) k v := by simp [mL, sL, va_up]
theorem mL_sL_ne {M : Mm} {a k b : Nat} {v : Int64} (h : b ≠ a) : mL (sL M a k v) b = mL M b := by simp [mL, sL, va_up, h]
theorem mN_sR (M : Mm) (a k : Nat) (v : Option Nat) : mN (sR M a k v) = mN M := rfl
theorem mT_sR (M : Mm) (a k : Nat) (v : Option Nat) : mT (sR M a k v) = mT M := rfl
theorem mI_sR (M : Mm) (a k : Nat) (v : Option Nat) : mI (sR M a k v) = mI M := rfl
theorem mL_sR (M : Mm) (a k : Nat) (v : Option Nat) : mL (sR M a k v) = mL M := rfl
theorem mR_sR (M : Mm) (a k : Nat) (v : Option Nat) : mR (sR M a k v) a = va_up (mR M a) k v := by simp [mR, sR, va_up]
theorem mR_sR_ne {M : Mm} {a k b : Nat} {v : Option Nat} (h : b ≠ a) : mR (sR M a k v) b = mR M b := by simp [mR, sR, va_up, h]
theorem mN_aN (M : Mm) (sh : Sh) : mN (aN M sh) = mN M + 1 := rfl
theorem mT_aN (M : Mm) (sh : Sh) : mT (aN M sh) (mN M) = sh := by simp [mT, aN, mN, va_up]
theorem mT_aN_ne {M : Mm} {sh : Sh} {b : Nat} (h : b ≠ mN M) : mT (aN M sh) b = mT M b := by
  have h' : b ≠ M.1 := h
  simp [mT, aN, va_up, h']
theorem mI_aN (M : Mm) (sh : Sh) : mI (aN M sh) (mN M) = fun _ => 0 := by simp [mI, aN, mN, va_up]
theorem mI_aN_ne {M : Mm} {sh : Sh} {b : Nat} (h : b ≠ mN M) : mI (aN M sh) b = mI M b := by
  have h' : b ≠ M.1 := h
  simp [mI, aN, va_up, h']
theorem mL_aN (M : Mm) (sh : Sh) : mL (aN M sh) (mN M) = fun _ => 0 := by simp [mL, aN, mN, va_up]
theorem mL_aN_ne {M : Mm} {sh : Sh} {b : Nat} (h : b ≠ mN M) : mL (aN M sh) b = mL M b := by
  have h' : b ≠ M.1 := h
  simp [mL, aN, va_up, h']
theorem mR_aN (M : Mm) (sh : Sh) : mR (aN M sh) (mN M) = fun _ => none := by simp [mR, aN, mN, va_up]
theorem mR_aN_ne {M : Mm} {sh : Sh} {b : Nat} (h : b ≠ mN M) : mR (aN M sh) b = mR M b := by
  have h' : b ≠ M.1 := h
  simp [mR, aN, va_up, h']
/-- the fields of a kind of object: 0 an int, 1 a long, 2 a reference -/
def fkd : Nat → List Nat
  | 1 => [2, 2, 2, 2, 2, 2, 0, 0]
  | 4 => [2, 0]
  | 5 => [2, 2, 2, 2, 0, 0]
  | 8 => [2, 2, 2, 2, 2, 2, 2, 2, 2, 2, 2, 2, 0, 0, 0, 0, 0, 0]
  | 9 => [2, 0, 2, 0, 0, 0, 0, 2, 0, 2, 0, 0, 0, 0, 2, 2, 2, 2, 2, 2, 2, 0, 0, 0, 0, 0, 0, 0, 2, 2, 2, 1]
  | _ => [0, 0, 0]
def fval (z : Nat) (M : Mm) (a k d : Nat) : Value := match d with
  | 0 => .int (mI M a k)
  | 1 => .long (mL M a k)
  | _ => va_rf ((mR M a k).map (fun j => z + j))
def fldsF (z : Nat) (M : Mm) (a : Nat) : Nat → List Nat → List Value
  | _, [] => []
  | k, d :: ds => fval z M a k d :: fldsF z M a (k + 1) ds
theorem fldsF_get (z : Nat) (M : Mm) (a : Nat) : ∀ (ds : List Nat) (k j : Nat), (fldsF z M a k ds)[j]? = (ds[j]?).map (fun d => fval z M a (k + j) d)
  | [], k, j => by simp [fldsF]
  | d :: ds, k, 0 => by simp [fldsF]
  | d :: ds, k, j + 1 => by
    show (fldsF z M a (k + 1) ds)[j]? = _
    rw [fldsF_get z M a ds (k + 1) j, List.getElem?_cons_succ, show k + 1 + j = k + (j + 1) by omega]
def flds (z : Nat) (M : Mm) (a ci : Nat) : List Value := fldsF z M a 0 (fkd ci)
theorem flds_get (z : Nat) (M : Mm) (a ci j : Nat) : (flds z M a ci)[j]? = ((fkd ci)[j]?).map (fun d => fval z M a j d) := by
  rw [flds, fldsF_get, Nat.zero_add]
abbrev Gx : Type := Nat × va_G × ClassId × ClassId × ClassId × ClassId
def cel (g : Gx) (M : Mm) (a : Nat) : va_E := match mT M a with
  | .inl ci => .inr (ci, flds g.1 M a ci)
  | .inr (0, n) => .inl (g.2.2.1, n, .inl (mI M a))
  | .inr (1, n) => .inl (g.2.2.2.1, n, .inr (.inl (mL M a)))
  | .inr (2, n) => .inl (g.2.2.2.2.1, n, .inl (mI M a))
  | .inr (_, n) => .inl (g.2.2.2.2.2, n, .inr (.inr (.inr (.inr (fun j => (mR M a j).map (fun j => g.1 + j))))))
def wl (g : Gx) (M : Mm) : va_W := (List.range (mN M)).map fun a => (g.1 + a, cel g M a)
theorem wl_len (g : Gx) (M : Mm) : (wl g M).length = mN M := by simp [wl]
theorem wl_get (g : Gx) (M : Mm) (a : Nat) : (wl g M)[a]? = if a < mN M then some (g.1 + a, cel g M a) else none := by
  by_cases h : a < mN M <;> simp [wl, h]
theorem wl_at {g : Gx} {M : Mm} {a : Nat} (h : a < mN M) : (wl g M)[a]? = some (g.1 + a, cel g M a) := by rw [wl_get, if_pos h]
theorem flds_congr {z : Nat} {M M' : Mm} {a : Nat} (hI : mI M' a = mI M a) (hL : mL M' a = mL M a) (hR : mR M' a = mR M a) (ci : Nat) : flds z M' a ci = flds z M a ci := by
  apply List.ext_getElem?
  intro j
  rw [flds_get, flds_get]
  have : (fun d => fval z M' a j d) = (fun d => fval z M a j d) := by
    funext d
    match d with
    | 0 => simp only [fval, hI]
    | 1 => simp only [fval, hL]
    | _ + 2 => simp only [fval, hR]
  rw [this]
theorem cel_congr {g : Gx} {M M' : Mm} {a : Nat} (hT : mT M' a = mT M a) (hI : mI M' a = mI M a) (hL : mL M' a = mL M a) (hR : mR M' a = mR M a) : cel g M' a = cel g M a := by
  unfold cel
  rw [hT, hI, hL, hR]
  split
  · rw [flds_congr hI hL hR]
  · rfl
  · rfl
  · rfl
  · rfl
theorem wl_set {g : Gx} {M M' : Mm} {a : Nat} {e : va_E} (hN : mN M' = mN M) (he : cel g M' a = e) (ho : ∀ b, b ≠ a → cel g M' b = cel g M b) : (wl g M).set a (g.1 + a, e) = wl g M' := by
  apply List.ext_getElem?
  intro j
  rw [List.getElem?_set, wl_get, wl_get, wl_len, hN]
  by_cases h : a = j
  · subst h
    by_cases h2 : a < mN M
    · simp [h2, he]
    · simp [h2]
  · rw [if_neg h, ho j (fun q => h q.symm)]
theorem wl_push (g : Gx) (M : Mm) (sh : Sh) : wl g (aN M sh) = wl g M ++ [(g.1 + mN M, cel g (aN M sh) (mN M))] := by
  apply List.ext_getElem?
  intro j
  rw [wl_get, mN_aN]
  by_cases h : j < mN M
  · rw [List.getElem?_append_left (by rw [wl_len]; exact h), wl_at h, if_pos (by omega), cel_congr (mT_aN_ne (by omega)) (mI_aN_ne (by omega)) (mL_aN_ne (by omega)) (mR_aN_ne (by omega))]
  · rw [List.getElem?_append_right (by rw [wl_len]; omega), wl_len]
    by_cases h2 : j = mN M
    · subst h2
      simp
    · rw [if_neg (by omega), List.getElem?_eq_none (by simp; omega)]
theorem wl_D (g : Gx) (M : Mm) : va_D (fun q => g.1 ≤ q) (wl g M) := by
  refine ⟨fun i j p q hi hj hpq => ?_, fun k q hk => ?_⟩
  · rw [wl_get] at hi hj
    split at hi
    · split at hj
      · cases hi; cases hj
        have : g.1 + i = g.1 + j := hpq
        omega
      · cases hj
    · cases hi
  · rw [wl_get] at hk
    split at hk
    · cases hk
      exact Nat.le_add_right _ _
    · cases hk
theorem flds_setI {z : Nat} {M : Mm} {a k ci : Nat} {v : Int32} (hk : (fkd ci)[k]? = some 0) : (flds z M a ci).set k (.int v) = flds z (sI M a k v) a ci := by
  apply List.ext_getElem?
  intro j
  rw [List.getElem?_set, flds_get, flds_get]
  have hl : k < (flds z M a ci).length := by
    rcases Nat.lt_or_ge k (flds z M a ci).length with h | h
    · exact h
    · have h2 := flds_get z M a ci k
      rw [List.getElem?_eq_none h, hk] at h2
      cases h2
  by_cases h : k = j
  · subst h
    rw [if_pos rfl, if_pos hl, hk]
    simp [fval, mI_sI, va_up]
  · rw [if_neg h]
    have : (fun d => fval z (sI M a k v) a j d) = (fun d => fval z M a j d) := by
      funext d
      match d with
      | 0 => simp only [fval, mI_sI, va_up_ne _ _ (fun q => h q.symm)]
      | 1 => rfl
      | _ + 2 => rfl
    rw [this]
theorem flds_setL {z : Nat} {M : Mm} {a k ci : Nat} {v : Int64} (hk : (fkd ci)[k]? = some 1) : (flds z M a ci).set k (.long v) = flds z (sL M a k v) a ci := by
  apply List.ext_getElem?
  intro j
  rw [List.getElem?_set, flds_get, flds_get]
  have hl : k < (flds z M a ci).length := by
    rcases Nat.lt_or_ge k (flds z M a ci).length with h | h
    · exact h
    · have h2 := flds_get z M a ci k
      rw [List.getElem?_eq_none h, hk] at h2
      cases h2
  by_cases h : k = j
  · subst h
    rw [if_pos rfl, if_pos hl, hk]
    simp [fval, mL_sL, va_up]
  · rw [if_neg h]
    have : (fun d => fval z (sL M a k v) a j d) = (fun d => fval z M a j d) := by
      funext d
      match d with
      | 0 => rfl
      | 1 => simp only [fval, mL_sL, va_up_ne _ _ (fun q => h q.symm)]
      | _ + 2 => rfl
    rw [this]
theorem flds_setR {z : Nat} {M : Mm} {a k ci : Nat} {v : Nat} (hk : (fkd ci)[k]? = some 2) : (flds z M a ci).set k (.ref (z + v)) = flds z (sR M a k (some v)) a ci := by
  apply List.ext_getElem?
  intro j
  rw [List.getElem?_set, flds_get, flds_get]
  have hl : k < (flds z M a ci).length := by
    rcases Nat.lt_or_ge k (flds z M a ci).length with h | h
    · exact h
    · have h2 := flds_get z M a ci k
      rw [List.getElem?_eq_none h, hk] at h2
      cases h2
  by_cases h : k = j
  · subst h
    rw [if_pos rfl, if_pos hl, hk]
    simp [fval, mR_sR, va_up, va_rf]
  · rw [if_neg h]
    have : (fun d => fval z (sR M a k (some v)) a j d) = (fun d => fval z M a j d) := by
      funext d
      match d with
      | 0 => rfl
      | 1 => rfl
      | _ + 2 => simp only [fval, mR_sR, va_up_ne _ _ (fun q => h q.symm)]
    rw [this]
theorem wl_setFI {g : Gx} {M : Mm} {a k ci : Nat} {v : Int32} (hT : mT M a = .inl ci) (hk : (fkd ci)[k]? = some 0) : (wl g M).set a (g.1 + a, .inr (ci, (flds g.1 M a ci).set k (.int v))) = wl g (sI M a k v) := by
  refine wl_set rfl ?_ (fun b hb => cel_congr rfl (mI_sI_ne hb) rfl rfl)
  unfold cel
  rw [mT_sI, hT, flds_setI hk]
theorem wl_setFL {g : Gx} {M : Mm} {a k ci : Nat} {v : Int64} (hT : mT M a = .inl ci) (hk : (fkd ci)[k]? = some 1) : (wl g M).set a (g.1 + a, .inr (ci, (flds g.1 M a ci).set k (.long v))) = wl g (sL M a k v) := by
  refine wl_set rfl ?_ (fun b hb => cel_congr rfl rfl (mL_sL_ne hb) rfl)
  unfold cel
  rw [mT_sL, hT, flds_setL hk]
theorem wl_setFR {g : Gx} {M : Mm} {a k ci v : Nat} (hT : mT M a = .inl ci) (hk : (fkd ci)[k]? = some 2) : (wl g M).set a (g.1 + a, .inr (ci, (flds g.1 M a ci).set k (.ref (g.1 + v)))) = wl g (sR M a k (some v)) := by
  refine wl_set rfl ?_ (fun b hb => cel_congr rfl rfl rfl (mR_sR_ne hb))
  unfold cel
  rw [mT_sR, hT, flds_setR hk]
theorem wl_setAI {g : Gx} {M : Mm} {a k n : Nat} {v : Int32} (hT : mT M a = .inr (0, n)) : (wl g M).set a (g.1 + a, .inl (g.2.2.1, n, .inl (upd (mI M a) k v))) = wl g (sI M a k v) := by
  refine wl_set rfl ?_ (fun b hb => cel_congr rfl (mI_sI_ne hb) rfl rfl)
  unfold cel
  rw [mT_sI, hT, mI_sI]
  rfl
theorem wl_setAZ {g : Gx} {M : Mm} {a k n : Nat} {v : Int32} (hT : mT M a = .inr (2, n)) : (wl g M).set a (g.1 + a, .inl (g.2.2.2.2.1, n, .inl (upd (mI M a) k v))) = wl g (sI M a k v) := by
  refine wl_set rfl ?_ (fun b hb => cel_congr rfl (mI_sI_ne hb) rfl rfl)
  unfold cel
  rw [mT_sI, hT, mI_sI]
  rfl
theorem wl_setAL {g : Gx} {M : Mm} {a k n : Nat} {v : Int64} (hT : mT M a = .inr (1, n)) : (wl g M).set a (g.1 + a, .inl (g.2.2.2.1, n, .inr (.inl (vp_updL (mL M a) k v)))) = wl g (sL M a k v) := by
  refine wl_set rfl ?_ (fun b hb => cel_congr rfl rfl (mL_sL_ne hb) rfl)
  unfold cel
  rw [mT_sL, hT, mL_sL]
  rfl
theorem wl_setAR {g : Gx} {M : Mm} {a k n v : Nat} (hT : mT M a = .inr (3, n)) : (wl g M).set a (g.1 + a, .inl (g.2.2.2.2.2, n, .inr (.inr (.inr (.inr (va_up (fun j => (mR M a j).map (fun j => g.1 + j)) k (some (g.1 + v)))))))) = wl g (sR M a k (some v)) := by
  refine wl_set rfl ?_ (fun b hb => cel_congr rfl rfl rfl (mR_sR_ne hb))
  unfold cel
  rw [mT_sR, hT, mR_sR]
  have : (fun j => (va_up (mR M a) k (some v) j).map (fun j => g.1 + j)) = va_up (fun j => (mR M a j).map (fun j => g.1 + j)) k (some (g.1 + v)) := by
    funext j
    by_cases h : j = k <;> simp [va_up, h]
  rw [← this]
  rfl
theorem cel_obj {g : Gx} {M : Mm} {a ci : Nat} (hT : mT M a = .inl ci) : cel g M a = .inr (ci, flds g.1 M a ci) := by unfold cel; rw [hT]
theorem cel_I {g : Gx} {M : Mm} {a n : Nat} (hT : mT M a = .inr (0, n)) : cel g M a = .inl (g.2.2.1, n, .inl (mI M a)) := by unfold cel; rw [hT]; rfl
theorem cel_L {g : Gx} {M : Mm} {a n : Nat} (hT : mT M a = .inr (1, n)) : cel g M a = .inl (g.2.2.2.1, n, .inr (.inl (mL M a))) := by unfold cel; rw [hT]; rfl
theorem cel_Z {g : Gx} {M : Mm} {a n : Nat} (hT : mT M a = .inr (2, n)) : cel g M a = .inl (g.2.2.2.2.1, n, .inl (mI M a)) := by unfold cel; rw [hT]; rfl
theorem cel_R {g : Gx} {M : Mm} {a n : Nat} (hT : mT M a = .inr (3, n)) : cel g M a = .inl (g.2.2.2.2.2, n, .inr (.inr (.inr (.inr (fun j => (mR M a j).map (fun j => g.1 + j)))))) := by unfold cel; rw [hT]; rfl
end
section
/-! words that a call may hand on -/
def TB : List Cond := lw_tbl.filter goodWord
theorem tb_of {w : Cond} (h : w ∈ lw_tbl) (hg : goodWord w = true) : w ∈ TB := List.mem_filter.mpr ⟨h, hg⟩
theorem tb_lw {w : Cond} (h : w ∈ TB) : w ∈ lw_tbl := (List.mem_filter.mp h).1
theorem tb_gd {w : Cond} (h : w ∈ TB) : (w.onTables && w.keeps) = true ∨ ∃ ty, w = .arrayClass ty := good_of_word (List.mem_filter.mp h).2
theorem tb_in {w : Cond} (h : w ∈ TB) : GoodIn TB (w :: TB) := fun v hv => (List.mem_cons.mp hv).elim (fun e => by rw [e]; exact ⟨h, tb_gd h⟩) (fun hv => ⟨hv, tb_gd hv⟩)
theorem tb_app {ws : List Cond} {w : Cond} (hw : ∀ v ∈ ws, v ∈ TB) (h : w ∈ TB) : GoodIn TB (ws ++ (w :: TB)) := fun v hv => (List.mem_append.mp hv).elim (fun hv => ⟨hw v hv, tb_gd (hw v hv)⟩) (tb_in h v)
/-! what a machine knows of the kinds of things, through all the law -/
abbrev tys (g : Gx) : List (ClassId × FieldType) := [(g.2.2.1, .int), (g.2.2.2.1, .long), (g.2.2.2.2.1, .boolean), (g.2.2.2.2.2, .object RX7)]
def caP : List (String × String) := [(RX6, RX7), (RX0, RX7), (RX2, RX7), (RX3, RX7), (RX3, RX6)]
def ncP : List (String × String) := [(RX7, RX6), (RX0, RX6), (RX2, RX6), (RX7, RX0), (RX6, RX0), (RX2, RX0), (RX3, RX0), (RX7, RX2), (RX6, RX2), (RX0, RX2), (RX3, RX2), (RX7, RX3), (RX6, RX3), (RX0, RX3), (RX2, RX3)]
def Ev (g : Gx) (U : State) : Prop := va_K g.2.1 vwCl (tys g) U ∧ (va_Nw (.methodLinkNest RX8 11 yX4_init RX8) U ∧ va_Nw (.methodLinkNest RX8 18 yX5_init RX8) U ∧ va_Nw (.methodLinkNest RX8 38 yX1_init RX8) U ∧ va_Nw (.methodLinkNest RX5 62 yX8_isHouse RX8) U) ∧ va_AO RX7 U ∧ (∀ q ∈ caP, va_Nw (.castable q.1 q.2) U) ∧ (∀ q ∈ ncP, va_Nc q.1 q.2 U)
theorem Ev.warm {g : Gx} {s U : State} (hW : s.WarmedH U.vm) (h : Ev g s) : Ev g U :=
  ⟨va_K.moved hW.alike h.1, ⟨va_Nw.warmM hW h.2.1.1, va_Nw.warmM hW h.2.1.2.1, va_Nw.warmM hW h.2.1.2.2.1, va_Nw.warmM hW h.2.1.2.2.2⟩, va_AO.moved hW.alike h.2.2.1, fun q hq => va_Nw.warmC hW (h.2.2.2.1 q hq), fun q hq => va_Nc.moved hW.alike (h.2.2.2.2 q hq)⟩
theorem Ev.same {g : Gx} {s U : State} (hvm : s.vm = U.vm) (h : Ev g s) : Ev g U :=
  ⟨va_K.moved (by rw [hvm]; exact Vm.Alike.refl _) h.1, ⟨va_Nw.same rfl hvm h.2.1.1, va_Nw.same rfl hvm h.2.1.2.1, va_Nw.same rfl hvm h.2.1.2.2.1, va_Nw.same rfl hvm h.2.1.2.2.2⟩, va_AO.moved (by rw [hvm]; exact Vm.Alike.refl _) h.2.2.1, fun q hq => va_Nw.same rfl hvm (h.2.2.2.1 q hq), fun q hq => va_Nc.moved (by rw [hvm]; exact Vm.Alike.refl _) (h.2.2.2.2 q hq)⟩
/-! the walk's variables -/
abbrev Lv : Type := List (Nat × Option Value)
def lvq : Lv → Nat → Option Value
  | [], _ => none
  | q :: t, i => match Nat.beq q.1 i with
    | true => q.2
    | false => lvq t i
def lvOK (ls : Array Slot) (nL : Nat) (lv : Lv) : Prop := ls.size = nL ∧ lv_wf ls ∧ ∀ (i : Nat) (v : Value), lvq lv i = some v → ls[i]? = some (.val v)
theorem lvq_cons (i : Nat) (v : Option Value) (lv : Lv) (j : Nat) : lvq ((i, v) :: lv) j = if i = j then v else lvq lv j := by
  by_cases h : i = j
  · subst h
    simp [lvq, Nat.beq_refl]
  · have : Nat.beq i j = false := by
      cases hb : Nat.beq i j with
      | true => exact absurd (Nat.eq_of_beq_eq_true hb) h
      | false => rfl
    simp [lvq, this, h]
def lvAll (lv : Lv) (nL : Nat) : List (Nat × Value) := (List.range nL).filterMap (fun j => (lvq lv j).map (fun v => (j, v)))
theorem lvAll_mem {lv : Lv} {nL i : Nat} {v : Value} : (i, v) ∈ lvAll lv nL ↔ i < nL ∧ lvq lv i = some v := by
  unfold lvAll
  rw [List.mem_filterMap]
  constructor
  · rintro ⟨j, hj, h⟩
    cases hq : lvq lv j with
    | none => rw [hq] at h; cases h
    | some w =>
      rw [hq] at h
      cases h
      exact ⟨List.mem_range.mp hj, hq⟩
  · rintro ⟨h1, h2⟩
    exact ⟨i, List.mem_range.mpr h1, by rw [h2]; rfl⟩
theorem lvOK.has {ls : Array Slot} {nL : Nat} {lv : Lv} (h : lvOK ls nL lv) : lv_has ls nL (lvAll lv nL) := ⟨h.1, h.2.1, fun q hq => h.2.2 q.1 q.2 (lvAll_mem.mp hq).2⟩
theorem lvOK.lt {ls : Array Slot} {nL : Nat} {lv : Lv} (h : lvOK ls nL lv) {i : Nat} {v : Value} (hv : lvq lv i = some v) : i < nL := by
  have := lv_lt (h.2.2 i v hv)
  rw [h.1] at this
  exact this
def lvP (lv : Lv) (i : Nat) : Bool := match i with
  | 0 => true
  | j + 1 => match lvq lv j with
    | none => true
    | some v => Nat.beq v.category 1
theorem lvP_spec {lv : Lv} {i j : Nat} {v : Value} (h : lvP lv i = true) (hj : j + 1 = i) (hv : lvq lv j = some v) : v.category = 1 := by
  subst hj
  simp only [lvP, hv] at h
  exact Nat.eq_of_beq_eq_true h
theorem lvOK.set1 {ls ls' : Array Slot} {nL i : Nat} {lv : Lv} {v : Value} (h : lvOK ls nL lv) (hp : lvP lv i = true) (h' : lv_has ls' nL ((i, v) :: (lvAll lv nL).filter (fun q => !(q.1 == i) && !(q.1 + 1 == i && q.2.category == 2)))) : lvOK ls' nL ((i, some v) :: lv) := by
  refine ⟨h'.1, h'.2.1, fun j w hj => ?_⟩
  rw [lvq_cons] at hj
  by_cases hij : i = j
  · rw [if_pos hij] at hj
    cases hj
    rw [← hij]
    exact h'.2.2 (i, v) List.mem_cons_self
  · rw [if_neg hij] at hj
    refine h'.2.2 (j, w) (List.mem_cons_of_mem _ (List.mem_filter.mpr ⟨lvAll_mem.mpr ⟨h.lt hj, hj⟩, ?_⟩))
    have h1 : (j == i) = false := by simp; exact fun q => hij q.symm
    have h2 : (j + 1 == i && w.category == 2) = false := by
      by_cases hc : j + 1 = i
      · rw [lvP_spec hp hc hj]; simp
      · simp [hc]
    show (!(j == i) && !(j + 1 == i && w.category == 2)) = true
    rw [h1, h2]
    rfl
theorem lvOK.set2 {ls ls' : Array Slot} {nL i : Nat} {lv : Lv} {v : Value} (h : lvOK ls nL lv) (hp : lvP lv i = true) (h' : lv_has ls' nL ((i, v) :: (lvAll lv nL).filter (fun q => !(q.1 == i) && (!(q.1 == i + 1) && !(q.1 + 1 == i && q.2.category == 2))))) : lvOK ls' nL ((i, some v) :: (i + 1, none) :: lv) := by
  refine ⟨h'.1, h'.2.1, fun j w hj => ?_⟩
  rw [lvq_cons, lvq_cons] at hj
  by_cases hij : i = j
  · rw [if_pos hij] at hj
    cases hj
    rw [← hij]
    exact h'.2.2 (i, v) List.mem_cons_self
  · rw [if_neg hij] at hj
    by_cases hij2 : i + 1 = j
    · rw [if_pos hij2] at hj; cases hj
    · rw [if_neg hij2] at hj
      refine h'.2.2 (j, w) (List.mem_cons_of_mem _ (List.mem_filter.mpr ⟨lvAll_mem.mpr ⟨h.lt hj, hj⟩, ?_⟩))
      have h1 : (j == i) = false := by simp; exact fun q => hij q.symm
      have h3 : (j == i + 1) = false := by simp; exact fun q => hij2 q.symm
      have h2 : (j + 1 == i && w.category == 2) = false := by
        by_cases hc : j + 1 = i
        · rw [lvP_spec hp hc hj]; simp
        · simp [hc]
      show (!(j == i) && (!(j == i + 1) && !(j + 1 == i && w.category == 2))) = true
      rw [h1, h2, h3]
      rfl
theorem lvq_mem {l : List (Nat × Value)} {i : Nat} {v : Value} (h : lvq (l.map (fun q => (q.1, some q.2))) i = some v) : (i, v) ∈ l := by
  induction l with
  | nil => cases h
  | cons a l ih =>
    rw [List.map_cons, lvq_cons] at h
    by_cases h1 : a.1 = i
    · rw [if_pos h1] at h
      cases h
      rw [← h1]
      exact List.mem_cons_self
    · rw [if_neg h1] at h
      exact List.mem_cons_of_mem _ (ih h)
theorem lvOK.of {ls : Array Slot} {nL : Nat} {l : List (Nat × Value)} (h : lv_has ls nL l) : lvOK ls nL (l.map (fun q => (q.1, some q.2))) := ⟨h.1, h.2.1, fun _ _ hv => h.2.2 _ (lvq_mem hv)⟩
def lvSub (lv : Lv) : Lv → Prop
  | [] => True
  | q :: t => (∀ v, q.2 = some v → lvq lv q.1 = some v) ∧ lvSub lv t
theorem lvSub_q {lv : Lv} : ∀ {l : Lv}, lvSub lv l → ∀ (i : Nat) (v : Value), lvq l i = some v → lvq lv i = some v
  | [], _, i, v, h => by cases h
  | a :: l, hs, i, v, h => by
    obtain ⟨k, w⟩ := a
    rw [lvq_cons] at h
    by_cases h1 : k = i
    · rw [if_pos h1] at h
      have := hs.1 v h
      rw [← h1]
      exact this
    · rw [if_neg h1] at h
      exact lvSub_q hs.2 i v h
theorem lvOK.sub {ls : Array Slot} {nL : Nat} {lv l : Lv} (h : lvOK ls nL lv) (hs : lvSub lv l) : lvOK ls nL l := ⟨h.1, h.2.1, fun i v hv => h.2.2 i v (lvSub_q hs i v hv)⟩
theorem lvS0 {lv : Lv} : lvSub lv [] := trivial
theorem lvSc {lv l : Lv} {i : Nat} {v : Value} (h : lvq lv i = some v) (hs : lvSub lv l) : lvSub lv ((i, some v) :: l) := ⟨fun _ e => by cases e; exact h, hs⟩
/-! the judgement: the machine stands in method y at pc, over the memory M; it comes to Q -/
abbrev Cx : Type := Program × Launch × Env × State × MethodId × Array Value × List Frame × Method × Code
abbrev xs' (x : Cx) : State := x.2.2.2.1
def Cok (x : Cx) (g : Gx) (y : MethodName) (cc : ByteArray) (nL : Nat) (ret : Option FieldType) : Prop :=
  x.1.tables.exec = Jvm.exec ∧ x.2.2.2.2.2.2.2.2.code = cc ∧ x.2.2.2.2.2.2.2.2.maxLocals = nL ∧ x.2.2.2.1.vm.findClass y.cls = some x.2.2.2.2.1.cls ∧ (∀ w ∈ TB, w.before x.2.2.2.2.2.1 x.2.2.2.1 = true) ∧ Ev g x.2.2.2.1 ∧ x.2.2.2.2.2.2.2.1.sig.returnType = ret ∧ x.2.2.2.2.2.2.2.1.locks = false ∧ g.1 ≤ x.2.2.2.1.heap.size ∧ x.2.2.2.2.2.2.2.1.name = y.name
def Vw (x : Cx) (R : Room) (k sl : Nat) (Q : State → Prop) (H : Heap) (locs : List Loc) (f : JFrame) : Prop := W x.1 x.2.1 x.2.2.1 R x.2.2.2.1 x.2.2.2.2.1 x.2.2.2.2.2.1 x.2.2.2.2.2.2.1 x.2.2.2.2.2.2.2.1 x.2.2.2.2.2.2.2.2 H locs k sl Q f
def Vj (x : Cx) (g : Gx) (y : MethodName) (cc : ByteArray) (nL : Nat) (ret : Option FieldType) (R : Room) (Q : State → Prop) (k sl : Nat) (M : Mm) (pc : Nat) (lv : Lv) (st : List Value) : Prop :=
  Cok x g y cc nL ret → ∀ (H : Heap) (locs : List Loc) (ls : Array Slot), x.2.2.2.1.heap.size + k = g.1 + mN M → va_P g.2.1 vwCl (wl g M) H → va_S (fun q => g.1 ≤ q) x.2.2.2.1.heap H locs → lvOK ls nL lv → Vw x R k sl Q H locs (F0 x.2.2.2.2.1 pc ls st)
def Qc (g : Gx) (mc : Nat) (post : Option Value → Mm → Prop) : Array Value → State → Outcome → State → Prop := fun _ st o t => (∃ (v : Option Value) (M' : Mm), o = .returned v ∧ post v M' ∧ st.heap.size + mc = g.1 + mN M' ∧ va_P g.2.1 vwCl (wl g M') t.heap) ∧ va_F (fun q => g.1 ≤ q) st t
def Qm (x : Cx) (g : Gx) (mc ms : Nat) (post : Option Value → Mm → Prop) : State → Prop := MQ x.2.2.2.2.2.2.1 (Qc g mc post) x.2.2.2.2.2.1 x.2.2.2.1 mc ms (fun q => g.1 ≤ q)
def Pm (g : Gx) (M : Mm) (U : State) : Prop := U.heap.size = g.1 + mN M ∧ va_P g.2.1 vwCl (wl g M) U.heap ∧ Ev g U
/-- a method's contract: from the memory M with these arguments it returns, and post holds of the answer and the memory then -/
def Ct (g : Gx) (y : MethodName) (cc : ByteArray) (nL : Nat) (ret : Option FieldType) (rm : Room) (av : List Value) (M : Mm) (post : Option Value → Mm → Prop) : Prop :=
  ∀ l : Launch, Met l y (.code y cc nL ret :: TB) rm (va_Pc av (Pm g M)) (Qc g rm.cells post) rm.cells rm.slots (fun q => g.1 ≤ q)
theorem Ct.blind (av : List Value) (g : Gx) (M : Mm) : FrameBlind (va_Pc av (Pm g M)) := fun _ _ _ _ h => ⟨h.1, h.2.1, h.2.2.1, Ev.same rfl h.2.2.2⟩
theorem Ct.of {g : Gx} {y : MethodName} {cc : ByteArray} {nL : Nat} {ret : Option FieldType} {rm : Room} {av : List Value} {M : Mm} {post : Option Value → Mm → Prop} (hy : plainName y.cls = true) (hn : (lg_sl av).length ≤ nL)
    (h : ∀ x : Cx, Vj x g y cc nL ret rm (Qm x g rm.cells rm.slots post) 0 0 M 0 ((lv_args 0 av).map (fun q => (q.1, some q.2))) []) : Ct g y cc nL ret rm av M post := by
  intro l
  refine Met.ofW (cc := cc) (maxL := nL) (ret := ret) hy rfl ?_
  intro p e s m args below meth c s₁ B hml hv
  obtain ⟨rfl, hsz, hP, hE⟩ := hv
  have hts := atoms_spec (ws := .code y cc nL ret :: TB) B.pre
  have hl := lv_entry av (n := nL) hn
  rw [lg_entry_eq]
  exact h (p, l, e, s, m, av.toArray, below, meth, c) ⟨B.exec, B.bytes, hml, findClass_of_methodNamed B.named, fun w hw => hts w (List.mem_cons_of_mem _ hw), hE, B.returns, B.notSynchronized, by show g.1 ≤ s.heap.size; omega, (name_of_methodNamed B.named B.method).1⟩ s.heap [] _ hsz hP va_S.rf (lvOK.of hl)
section Rows
variable {x : Cx} {g : Gx} {y : MethodName} {cc : ByteArray} {nL : Nat} {ret : Option FieldType} {R : Room} {Q : State → Prop} {k sl : Nat} {M : Mm} {pc : Nat} {lv : Lv} {rest : List Value}
theorem r_lv {l : Lv} {st : List Value} (hs : lvSub lv l) (kk : Vj x g y cc nL ret R Q k sl M pc l st) : Vj x g y cc nL ret R Q k sl M pc lv st := fun C H locs ls hE hP hS hl => kk C H locs ls hE hP hS (hl.sub hs)
/-- a value that two ways come to -/
theorem r_dia {P : Int32 → Prop} (pcJ : Nat) {st : List Value} (hJ : ∀ v, P v → Vj x g y cc nL ret R Q k sl M pcJ lv (.int v :: st)) (h : (∀ v, P v → Vj x g y cc nL ret R Q k sl M pcJ lv (.int v :: st)) → Vj x g y cc nL ret R Q k sl M pc lv st) : Vj x g y cc nL ret R Q k sl M pc lv st := h hJ
theorem r_diaL {P : Int64 → Prop} (pcJ : Nat) {st : List Value} (hJ : ∀ v, P v → Vj x g y cc nL ret R Q k sl M pcJ lv (.long v :: st)) (h : (∀ v, P v → Vj x g y cc nL ret R Q k sl M pcJ lv (.long v :: st)) → Vj x g y cc nL ret R Q k sl M pc lv st) : Vj x g y cc nL ret R Q k sl M pc lv st := h hJ
theorem r_top {v : Int32} {st : List Value} (h : ∀ u, u = v → Vj x g y cc nL ret R Q k sl M pc lv (.int u :: st)) : Vj x g y cc nL ret R Q k sl M pc lv (.int v :: st) := h v rfl
theorem r_topl {v : Int64} {st : List Value} (h : ∀ u, u = v → Vj x g y cc nL ret R Q k sl M pc lv (.long u :: st)) : Vj x g y cc nL ret R Q k sl M pc lv (.long v :: st) := h v rfl
theorem r_eq {v w : Int32} {st : List Value} (e : v = w) (h : Vj x g y cc nL ret R Q k sl M pc lv (.int w :: st)) : Vj x g y cc nL ret R Q k sl M pc lv (.int v :: st) := by rw [e]; exact h
theorem r_eql {v w : Int64} {st : List Value} (e : v = w) (h : Vj x g y cc nL ret R Q k sl M pc lv (.long w :: st)) : Vj x g y cc nL ret R Q k sl M pc lv (.long v :: st) := by rw [e]; exact h
theorem r_mem {M' : Mm} {st : List Value} (e : M = M') (h : Vj x g y cc nL ret R Q k sl M' pc lv st) : Vj x g y cc nL ret R Q k sl M pc lv st := by rw [e]; exact h
theorem r_iconst {n : Int} {v : Int32} (d : decode cc pc = .ok (.iconst n, 1)) (hv : Int32.ofInt n = v) (kk : Vj x g y cc nL ret R Q k sl M (pc + 1) lv (.int v :: rest)) : Vj x g y cc nL ret R Q k sl M pc lv (rest) := fun C H locs ls hE hP hS hl => lv_iconst C.1 C.2.1 d hv (kk C H locs ls hE hP hS hl)
theorem r_bipush {n : Int} {v : Int32} (d : decode cc pc = .ok (.bipush n, 2)) (hv : (Int8.ofInt n).toInt32 = v) (kk : Vj x g y cc nL ret R Q k sl M (pc + 2) lv (.int v :: rest)) : Vj x g y cc nL ret R Q k sl M pc lv (rest) := fun C H locs ls hE hP hS hl => lv_bipush C.1 C.2.1 d hv (kk C H locs ls hE hP hS hl)
theorem r_sipush {n : Int} {v : Int32} (d : decode cc pc = .ok (.sipush n, 3)) (hv : (Int16.ofInt n).toInt32 = v) (kk : Vj x g y cc nL ret R Q k sl M (pc + 3) lv (.int v :: rest)) : Vj x g y cc nL ret R Q k sl M pc lv (rest) := fun C H locs ls hE hP hS hl => lv_sipush C.1 C.2.1 d hv (kk C H locs ls hE hP hS hl)
theorem r_lconst {n : Fin 2} {v : Int64} (d : decode cc pc = .ok (.lconst n, 1)) (hv : Int64.ofNat (n : Nat) = v) (kk : Vj x g y cc nL ret R Q k sl M (pc + 1) lv (.long v :: rest)) : Vj x g y cc nL ret R Q k sl M pc lv (rest) := fun C H locs ls hE hP hS hl => lv_lconst C.1 C.2.1 d hv (kk C H locs ls hE hP hS hl)
theorem r_ldc {i : Nat} {v : Int32} (d : decode cc pc = .ok (.ldc i, 2)) (hw : Cond.constant y.cls i v ∈ TB) (kk : Vj x g y cc nL ret R Q k sl M (pc + 2) lv (.int v :: rest)) : Vj x g y cc nL ret R Q k sl M pc lv (rest) := fun C H locs ls hE hP hS hl => lv_ldc C.1 C.2.1 C.2.2.2.1 (C.2.2.2.2.1 _ hw) d (kk C H locs ls hE hP hS hl)
theorem r_ldc_w {i : Nat} {v : Int32} (d : decode cc pc = .ok (.ldc_w i, 3)) (hw : Cond.constant y.cls i v ∈ TB) (kk : Vj x g y cc nL ret R Q k sl M (pc + 3) lv (.int v :: rest)) : Vj x g y cc nL ret R Q k sl M pc lv (rest) := fun C H locs ls hE hP hS hl => lv_ldcw C.1 C.2.1 C.2.2.2.1 (C.2.2.2.2.1 _ hw) d (kk C H locs ls hE hP hS hl)
theorem r_ldc2_w {i : Nat} {v : Int64} (d : decode cc pc = .ok (.ldc2_w i, 3)) (hw : Cond.constantLong y.cls i v ∈ TB) (kk : Vj x g y cc nL ret R Q k sl M (pc + 3) lv (.long v :: rest)) : Vj x g y cc nL ret R Q k sl M pc lv (rest) := fun C H locs ls hE hP hS hl => lv_ldc2 C.1 C.2.1 C.2.2.2.1 (C.2.2.2.2.1 _ hw) d (kk C H locs ls hE hP hS hl)
theorem r_iload_n {n : Fin 4} {v : Int32} (d : decode cc pc = .ok (.iload_n n, 1)) (hl0 : lvq lv (n : Nat) = some (.int v)) (kk : Vj x g y cc nL ret R Q k sl M (pc + 1) lv (.int v :: rest)) : Vj x g y cc nL ret R Q k sl M pc lv (rest) := fun C H locs ls hE hP hS hl => lv_iload_n C.1 C.2.1 d rfl (hl.2.2 _ _ hl0) (kk C H locs ls hE hP hS hl)
theorem r_iload {i : Nat} {v : Int32} (d : decode cc pc = .ok (.iload i, 2)) (hl0 : lvq lv i = some (.int v)) (kk : Vj x g y cc nL ret R Q k sl M (pc + 2) lv (.int v :: rest)) : Vj x g y cc nL ret R Q k sl M pc lv (rest) := fun C H locs ls hE hP hS hl => lv_iload C.1 C.2.1 d (hl.2.2 _ _ hl0) (kk C H locs ls hE hP hS hl)
theorem r_lload_n {n : Fin 4} {v : Int64} (d : decode cc pc = .ok (.lload_n n, 1)) (hl0 : lvq lv (n : Nat) = some (.long v)) (kk : Vj x g y cc nL ret R Q k sl M (pc + 1) lv (.long v :: rest)) : Vj x g y cc nL ret R Q k sl M pc lv (rest) := fun C H locs ls hE hP hS hl => lv_lload_n C.1 C.2.1 d rfl (hl.2.2 _ _ hl0) (kk C H locs ls hE hP hS hl)
theorem r_lload {i : Nat} {v : Int64} (d : decode cc pc = .ok (.lload i, 2)) (hl0 : lvq lv i = some (.long v)) (kk : Vj x g y cc nL ret R Q k sl M (pc + 2) lv (.long v :: rest)) : Vj x g y cc nL ret R Q k sl M pc lv (rest) := fun C H locs ls hE hP hS hl => lv_lload C.1 C.2.1 d (hl.2.2 _ _ hl0) (kk C H locs ls hE hP hS hl)
theorem r_aload_n {n : Fin 4} {v : Nat} (d : decode cc pc = .ok (.aload_n n, 1)) (hl0 : lvq lv (n : Nat) = some (.ref v)) (kk : Vj x g y cc nL ret R Q k sl M (pc + 1) lv (.ref v :: rest)) : Vj x g y cc nL ret R Q k sl M pc lv (rest) := fun C H locs ls hE hP hS hl => lv_aload_n C.1 C.2.1 d rfl (hl.2.2 _ _ hl0) (kk C H locs ls hE hP hS hl)
theorem r_aload {i : Nat} {v : Nat} (d : decode cc pc = .ok (.aload i, 2)) (hl0 : lvq lv i = some (.ref v)) (kk : Vj x g y cc nL ret R Q k sl M (pc + 2) lv (.ref v :: rest)) : Vj x g y cc nL ret R Q k sl M pc lv (rest) := fun C H locs ls hE hP hS hl => lv_aload C.1 C.2.1 d (hl.2.2 _ _ hl0) (kk C H locs ls hE hP hS hl)
theorem r_istore_n {n : Fin 4} {v : Int32} (d : decode cc pc = .ok (.istore_n n, 1)) (hn : (n : Nat) < nL) (hp : lvP lv (n : Nat) = true) (kk : Vj x g y cc nL ret R Q k sl M (pc + 1) (((n : Nat), some (.int v)) :: lv) rest) : Vj x g y cc nL ret R Q k sl M pc lv (.int v :: rest) := fun C H locs ls hE hP hS hl => lv_istore_n C.1 C.2.1 d rfl hl.has hn rfl (fun ls' hl' => kk C H locs ls' hE hP hS (hl.set1 hp hl'))
theorem r_istore {i : Nat} {v : Int32} (d : decode cc pc = .ok (.istore i, 2)) (hn : i < nL) (hp : lvP lv i = true) (kk : Vj x g y cc nL ret R Q k sl M (pc + 2) ((i, some (.int v)) :: lv) rest) : Vj x g y cc nL ret R Q k sl M pc lv (.int v :: rest) := fun C H locs ls hE hP hS hl => lv_istore C.1 C.2.1 d hl.has hn rfl (fun ls' hl' => kk C H locs ls' hE hP hS (hl.set1 hp hl'))
theorem r_lstore_n {n : Fin 4} {v : Int64} (d : decode cc pc = .ok (.lstore_n n, 1)) (hn : (n : Nat) + 1 < nL) (hp : lvP lv (n : Nat) = true) (kk : Vj x g y cc nL ret R Q k sl M (pc + 1) (((n : Nat), some (.long v)) :: ((n : Nat) + 1, none) :: lv) rest) : Vj x g y cc nL ret R Q k sl M pc lv (.long v :: rest) := fun C H locs ls hE hP hS hl => lv_lstore_n C.1 C.2.1 d rfl hl.has hn rfl (fun ls' hl' => kk C H locs ls' hE hP hS (hl.set2 hp hl'))
theorem r_lstore {i : Nat} {v : Int64} (d : decode cc pc = .ok (.lstore i, 2)) (hn : i + 1 < nL) (hp : lvP lv i = true) (kk : Vj x g y cc nL ret R Q k sl M (pc + 2) ((i, some (.long v)) :: (i + 1, none) :: lv) rest) : Vj x g y cc nL ret R Q k sl M pc lv (.long v :: rest) := fun C H locs ls hE hP hS hl => lv_lstore C.1 C.2.1 d hl.has hn rfl (fun ls' hl' => kk C H locs ls' hE hP hS (hl.set2 hp hl'))
theorem r_astore_n {n : Fin 4} {v : Nat} (d : decode cc pc = .ok (.astore_n n, 1)) (hn : (n : Nat) < nL) (hp : lvP lv (n : Nat) = true) (kk : Vj x g y cc nL ret R Q k sl M (pc + 1) (((n : Nat), some (.ref v)) :: lv) rest) : Vj x g y cc nL ret R Q k sl M pc lv (.ref v :: rest) := fun C H locs ls hE hP hS hl => lv_astore_n C.1 C.2.1 d rfl hl.has hn rfl (fun ls' hl' => kk C H locs ls' hE hP hS (hl.set1 hp hl'))
theorem r_astore {i : Nat} {v : Nat} (d : decode cc pc = .ok (.astore i, 2)) (hn : i < nL) (hp : lvP lv i = true) (kk : Vj x g y cc nL ret R Q k sl M (pc + 2) ((i, some (.ref v)) :: lv) rest) : Vj x g y cc nL ret R Q k sl M pc lv (.ref v :: rest) := fun C H locs ls hE hP hS hl => lv_astore C.1 C.2.1 d hl.has hn rfl (fun ls' hl' => kk C H locs ls' hE hP hS (hl.set1 hp hl'))
theorem r_iinc {i : Nat} {n : Int} {v w : Int32} (d : decode cc pc = .ok (.iinc i n, 3)) (hl0 : lvq lv i = some (.int v)) (hw : v + Int32.ofInt n = w) (hp : lvP lv i = true) (kk : Vj x g y cc nL ret R Q k sl M (pc + 3) ((i, some (.int w)) :: lv) rest) : Vj x g y cc nL ret R Q k sl M pc lv rest := fun C H locs ls hE hP hS hl => by
  obtain ⟨j, hj⟩ := List.getElem?_of_mem (lvAll_mem.mpr ⟨hl.lt hl0, hl0⟩)
  exact lv_iinc C.1 C.2.1 d hl.has hj hw (hl.lt hl0) rfl (fun ls' hl' => kk C H locs ls' hE hP hS (hl.set1 hp hl'))
theorem r_iadd {a b : Int32} (d : decode cc pc = .ok (.iadd, 1)) (kk : Vj x g y cc nL ret R Q k sl M (pc + 1) lv (.int (a + b) :: rest)) : Vj x g y cc nL ret R Q k sl M pc lv (.int b :: .int a :: rest) := fun C H locs ls hE hP hS hl => lv_iadd C.1 C.2.1 d (kk C H locs ls hE hP hS hl)
theorem r_isub {a b : Int32} (d : decode cc pc = .ok (.isub, 1)) (kk : Vj x g y cc nL ret R Q k sl M (pc + 1) lv (.int (a - b) :: rest)) : Vj x g y cc nL ret R Q k sl M pc lv (.int b :: .int a :: rest) := fun C H locs ls hE hP hS hl => lv_isub C.1 C.2.1 d (kk C H locs ls hE hP hS hl)
theorem r_imul {a b : Int32} (d : decode cc pc = .ok (.imul, 1)) (kk : Vj x g y cc nL ret R Q k sl M (pc + 1) lv (.int (a * b) :: rest)) : Vj x g y cc nL ret R Q k sl M pc lv (.int b :: .int a :: rest) := fun C H locs ls hE hP hS hl => lv_imul C.1 C.2.1 d (kk C H locs ls hE hP hS hl)
theorem r_iand {a b : Int32} (d : decode cc pc = .ok (.iand, 1)) (kk : Vj x g y cc nL ret R Q k sl M (pc + 1) lv (.int (a &&& b) :: rest)) : Vj x g y cc nL ret R Q k sl M pc lv (.int b :: .int a :: rest) := fun C H locs ls hE hP hS hl => lv_iand C.1 C.2.1 d (kk C H locs ls hE hP hS hl)
theorem r_ior {a b : Int32} (d : decode cc pc = .ok (.ior, 1)) (kk : Vj x g y cc nL ret R Q k sl M (pc + 1) lv (.int (a ||| b) :: rest)) : Vj x g y cc nL ret R Q k sl M pc lv (.int b :: .int a :: rest) := fun C H locs ls hE hP hS hl => lv_ior C.1 C.2.1 d (kk C H locs ls hE hP hS hl)
theorem r_ixor {a b : Int32} (d : decode cc pc = .ok (.ixor, 1)) (kk : Vj x g y cc nL ret R Q k sl M (pc + 1) lv (.int (a ^^^ b) :: rest)) : Vj x g y cc nL ret R Q k sl M pc lv (.int b :: .int a :: rest) := fun C H locs ls hE hP hS hl => lv_ixor C.1 C.2.1 d (kk C H locs ls hE hP hS hl)
theorem r_ishl {a b : Int32} (d : decode cc pc = .ok (.ishl, 1)) (kk : Vj x g y cc nL ret R Q k sl M (pc + 1) lv (.int (a <<< (b &&& 31)) :: rest)) : Vj x g y cc nL ret R Q k sl M pc lv (.int b :: .int a :: rest) := fun C H locs ls hE hP hS hl => lv_ishl C.1 C.2.1 d (kk C H locs ls hE hP hS hl)
theorem r_ishr {a b : Int32} (d : decode cc pc = .ok (.ishr, 1)) (kk : Vj x g y cc nL ret R Q k sl M (pc + 1) lv (.int (a >>> (b &&& 31)) :: rest)) : Vj x g y cc nL ret R Q k sl M pc lv (.int b :: .int a :: rest) := fun C H locs ls hE hP hS hl => lv_ishr C.1 C.2.1 d (kk C H locs ls hE hP hS hl)
theorem r_idiv {a b : Int32} (d : decode cc pc = .ok (.idiv, 1)) (hb : ¬ b = 0) (kk : Vj x g y cc nL ret R Q k sl M (pc + 1) lv (.int (a / b) :: rest)) : Vj x g y cc nL ret R Q k sl M pc lv (.int b :: .int a :: rest) := fun C H locs ls hE hP hS hl => lv_idiv C.1 C.2.1 d hb (kk C H locs ls hE hP hS hl)
theorem r_irem {a b : Int32} (d : decode cc pc = .ok (.irem, 1)) (hb : ¬ b = 0) (kk : Vj x g y cc nL ret R Q k sl M (pc + 1) lv (.int (a - a / b * b) :: rest)) : Vj x g y cc nL ret R Q k sl M pc lv (.int b :: .int a :: rest) := fun C H locs ls hE hP hS hl => lv_irem C.1 C.2.1 d hb (kk C H locs ls hE hP hS hl)
theorem r_iushr {a b : Int32} (d : decode cc pc = .ok (.iushr, 1)) (kk : Vj x g y cc nL ret R Q k sl M (pc + 1) lv (.int (a.toUInt32 >>> (b.toUInt32 &&& Int32.toUInt32 31)).toInt32 :: rest)) : Vj x g y cc nL ret R Q k sl M pc lv (.int b :: .int a :: rest) := fun C H locs ls hE hP hS hl => lv_iushr C.1 C.2.1 d rfl (kk C H locs ls hE hP hS hl)
theorem r_ladd {a b : Int64} (d : decode cc pc = .ok (.ladd, 1)) (kk : Vj x g y cc nL ret R Q k sl M (pc + 1) lv (.long (a + b) :: rest)) : Vj x g y cc nL ret R Q k sl M pc lv (.long b :: .long a :: rest) := fun C H locs ls hE hP hS hl => lv_ladd C.1 C.2.1 d (kk C H locs ls hE hP hS hl)
theorem r_lsub {a b : Int64} (d : decode cc pc = .ok (.lsub, 1)) (kk : Vj x g y cc nL ret R Q k sl M (pc + 1) lv (.long (a - b) :: rest)) : Vj x g y cc nL ret R Q k sl M pc lv (.long b :: .long a :: rest) := fun C H locs ls hE hP hS hl => lv_lsub C.1 C.2.1 d (kk C H locs ls hE hP hS hl)
theorem r_lmul {a b : Int64} (d : decode cc pc = .ok (.lmul, 1)) (kk : Vj x g y cc nL ret R Q k sl M (pc + 1) lv (.long (a * b) :: rest)) : Vj x g y cc nL ret R Q k sl M pc lv (.long b :: .long a :: rest) := fun C H locs ls hE hP hS hl => lv_lmul C.1 C.2.1 d (kk C H locs ls hE hP hS hl)
theorem r_land {a b : Int64} (d : decode cc pc = .ok (.land, 1)) (kk : Vj x g y cc nL ret R Q k sl M (pc + 1) lv (.long (a &&& b) :: rest)) : Vj x g y cc nL ret R Q k sl M pc lv (.long b :: .long a :: rest) := fun C H locs ls hE hP hS hl => lv_land C.1 C.2.1 d (kk C H locs ls hE hP hS hl)
theorem r_lor {a b : Int64} (d : decode cc pc = .ok (.lor, 1)) (kk : Vj x g y cc nL ret R Q k sl M (pc + 1) lv (.long (a ||| b) :: rest)) : Vj x g y cc nL ret R Q k sl M pc lv (.long b :: .long a :: rest) := fun C H locs ls hE hP hS hl => lv_lor C.1 C.2.1 d (kk C H locs ls hE hP hS hl)
theorem r_ldiv {a b : Int64} (d : decode cc pc = .ok (.ldiv, 1)) (hb : ¬ b = 0) (kk : Vj x g y cc nL ret R Q k sl M (pc + 1) lv (.long (a / b) :: rest)) : Vj x g y cc nL ret R Q k sl M pc lv (.long b :: .long a :: rest) := fun C H locs ls hE hP hS hl => lv_ldiv C.1 C.2.1 d hb (kk C H locs ls hE hP hS hl)
theorem r_lrem {a b : Int64} (d : decode cc pc = .ok (.lrem, 1)) (hb : ¬ b = 0) (kk : Vj x g y cc nL ret R Q k sl M (pc + 1) lv (.long (a - a / b * b) :: rest)) : Vj x g y cc nL ret R Q k sl M pc lv (.long b :: .long a :: rest) := fun C H locs ls hE hP hS hl => lv_lrem C.1 C.2.1 d hb (kk C H locs ls hE hP hS hl)
theorem r_lushr {a : Int64} {b : Int32} (d : decode cc pc = .ok (.lushr, 1)) (kk : Vj x g y cc nL ret R Q k sl M (pc + 1) lv (.long (a.toUInt64 >>> (b.toInt64.toUInt64 &&& Int64.toUInt64 63)).toInt64 :: rest)) : Vj x g y cc nL ret R Q k sl M pc lv (.int b :: .long a :: rest) := fun C H locs ls hE hP hS hl => lv_lushr C.1 C.2.1 d rfl (kk C H locs ls hE hP hS hl)
theorem r_lshl {a : Int64} {b : Int32} (d : decode cc pc = .ok (.lshl, 1)) (kk : Vj x g y cc nL ret R Q k sl M (pc + 1) lv (.long (a <<< (b.toInt64 &&& 63)) :: rest)) : Vj x g y cc nL ret R Q k sl M pc lv (.int b :: .long a :: rest) := fun C H locs ls hE hP hS hl => lv_lshl C.1 C.2.1 d rfl (kk C H locs ls hE hP hS hl)
theorem r_i2l {a : Int32} (d : decode cc pc = .ok (.i2l, 1)) (kk : Vj x g y cc nL ret R Q k sl M (pc + 1) lv (.long a.toInt64 :: rest)) : Vj x g y cc nL ret R Q k sl M pc lv (.int a :: rest) := fun C H locs ls hE hP hS hl => lv_i2l C.1 C.2.1 d rfl (kk C H locs ls hE hP hS hl)
theorem r_l2i {a : Int64} (d : decode cc pc = .ok (.l2i, 1)) (kk : Vj x g y cc nL ret R Q k sl M (pc + 1) lv (.int a.toInt32 :: rest)) : Vj x g y cc nL ret R Q k sl M pc lv (.long a :: rest) := fun C H locs ls hE hP hS hl => lv_l2i C.1 C.2.1 d rfl (kk C H locs ls hE hP hS hl)
theorem r_lcmp {a b : Int64} (d : decode cc pc = .ok (.lcmp, 1)) (kk : Vj x g y cc nL ret R Q k sl M (pc + 1) lv (.int (lg_cmp a b) :: rest)) : Vj x g y cc nL ret R Q k sl M pc lv (.long b :: .long a :: rest) := fun C H locs ls hE hP hS hl => W.lcmp C.1 C.2.1 d (kk C H locs ls hE hP hS hl)
theorem r_dup {v : Value} (d : decode cc pc = .ok (.dup, 1)) (hc : v.category = 1) (kk : Vj x g y cc nL ret R Q k sl M (pc + 1) lv (v :: v :: rest)) : Vj x g y cc nL ret R Q k sl M pc lv (v :: rest) := fun C H locs ls hE hP hS hl => lv_dup C.1 C.2.1 d hc (kk C H locs ls hE hP hS hl)
theorem r_pop {v : Value} (d : decode cc pc = .ok (.pop, 1)) (hc : v.category = 1) (kk : Vj x g y cc nL ret R Q k sl M (pc + 1) lv (rest)) : Vj x g y cc nL ret R Q k sl M pc lv (v :: rest) := fun C H locs ls hE hP hS hl => lv_pop C.1 C.2.1 d hc (kk C H locs ls hE hP hS hl)
theorem r_dup2 {v u : Value} (d : decode cc pc = .ok (.dup2, 1)) (hc : v.category = 1) (hc2 : u.category = 1) (kk : Vj x g y cc nL ret R Q k sl M (pc + 1) lv (v :: u :: v :: u :: rest)) : Vj x g y cc nL ret R Q k sl M pc lv (v :: u :: rest) := fun C H locs ls hE hP hS hl => lv_dup2_11 C.1 C.2.1 d hc hc2 (kk C H locs ls hE hP hS hl)
theorem r_if_eq (tgt : Nat) {a : Int32} {off : Int} (d : decode cc pc = .ok (.ifCond .eq off, 3)) (ht : (pc : Int) + off = (tgt : Int)) (kt : a = 0 → Vj x g y cc nL ret R Q k sl M tgt lv rest) (kf : ¬ a = 0 → Vj x g y cc nL ret R Q k sl M (pc + 3) lv rest) : Vj x g y cc nL ret R Q k sl M pc lv (.int a :: rest) := fun C H locs ls hE hP hS hl => lv_if_eq C.1 C.2.1 d ht (fun h => kt h C H locs ls hE hP hS hl) (fun h => kf h C H locs ls hE hP hS hl)
theorem r_icmp_eq (tgt : Nat) {a b : Int32} {off : Int} (d : decode cc pc = .ok (.if_icmp .eq off, 3)) (ht : (pc : Int) + off = (tgt : Int)) (kt : a = b → Vj x g y cc nL ret R Q k sl M tgt lv rest) (kf : ¬ a = b → Vj x g y cc nL ret R Q k sl M (pc + 3) lv rest) : Vj x g y cc nL ret R Q k sl M pc lv (.int b :: .int a :: rest) := fun C H locs ls hE hP hS hl => lv_icmp_eq C.1 C.2.1 d ht (fun h => kt h C H locs ls hE hP hS hl) (fun h => kf h C H locs ls hE hP hS hl)
theorem r_if_ne (tgt : Nat) {a : Int32} {off : Int} (d : decode cc pc = .ok (.ifCond .ne off, 3)) (ht : (pc : Int) + off = (tgt : Int)) (kt : ¬ a = 0 → Vj x g y cc nL ret R Q k sl M tgt lv rest) (kf : a = 0 → Vj x g y cc nL ret R Q k sl M (pc + 3) lv rest) : Vj x g y cc nL ret R Q k sl M pc lv (.int a :: rest) := fun C H locs ls hE hP hS hl => lv_if_ne C.1 C.2.1 d ht (fun h => kt h C H locs ls hE hP hS hl) (fun h => kf h C H locs ls hE hP hS hl)
theorem r_icmp_ne (tgt : Nat) {a b : Int32} {off : Int} (d : decode cc pc = .ok (.if_icmp .ne off, 3)) (ht : (pc : Int) + off = (tgt : Int)) (kt : ¬ a = b → Vj x g y cc nL ret R Q k sl M tgt lv rest) (kf : a = b → Vj x g y cc nL ret R Q k sl M (pc + 3) lv rest) : Vj x g y cc nL ret R Q k sl M pc lv (.int b :: .int a :: rest) := fun C H locs ls hE hP hS hl => lv_icmp_ne C.1 C.2.1 d ht (fun h => kt h C H locs ls hE hP hS hl) (fun h => kf h C H locs ls hE hP hS hl)
theorem r_if_lt (tgt : Nat) {a : Int32} {off : Int} (d : decode cc pc = .ok (.ifCond .lt off, 3)) (ht : (pc : Int) + off = (tgt : Int)) (kt : a < 0 → Vj x g y cc nL ret R Q k sl M tgt lv rest) (kf : ¬ a < 0 → Vj x g y cc nL ret R Q k sl M (pc + 3) lv rest) : Vj x g y cc nL ret R Q k sl M pc lv (.int a :: rest) := fun C H locs ls hE hP hS hl => lv_if_lt C.1 C.2.1 d ht (fun h => kt h C H locs ls hE hP hS hl) (fun h => kf h C H locs ls hE hP hS hl)
theorem r_icmp_lt (tgt : Nat) {a b : Int32} {off : Int} (d : decode cc pc = .ok (.if_icmp .lt off, 3)) (ht : (pc : Int) + off = (tgt : Int)) (kt : a < b → Vj x g y cc nL ret R Q k sl M tgt lv rest) (kf : ¬ a < b → Vj x g y cc nL ret R Q k sl M (pc + 3) lv rest) : Vj x g y cc nL ret R Q k sl M pc lv (.int b :: .int a :: rest) := fun C H locs ls hE hP hS hl => lv_icmp_lt C.1 C.2.1 d ht (fun h => kt h C H locs ls hE hP hS hl) (fun h => kf h C H locs ls hE hP hS hl)
theorem r_if_ge (tgt : Nat) {a : Int32} {off : Int} (d : decode cc pc = .ok (.ifCond .ge off, 3)) (ht : (pc : Int) + off = (tgt : Int)) (kt : 0 ≤ a → Vj x g y cc nL ret R Q k sl M tgt lv rest) (kf : ¬ 0 ≤ a → Vj x g y cc nL ret R Q k sl M (pc + 3) lv rest) : Vj x g y cc nL ret R Q k sl M pc lv (.int a :: rest) := fun C H locs ls hE hP hS hl => lv_if_ge C.1 C.2.1 d ht (fun h => kt h C H locs ls hE hP hS hl) (fun h => kf h C H locs ls hE hP hS hl)
theorem r_icmp_ge (tgt : Nat) {a b : Int32} {off : Int} (d : decode cc pc = .ok (.if_icmp .ge off, 3)) (ht : (pc : Int) + off = (tgt : Int)) (kt : b ≤ a → Vj x g y cc nL ret R Q k sl M tgt lv rest) (kf : ¬ b ≤ a → Vj x g y cc nL ret R Q k sl M (pc + 3) lv rest) : Vj x g y cc nL ret R Q k sl M pc lv (.int b :: .int a :: rest) := fun C H locs ls hE hP hS hl => lv_icmp_ge C.1 C.2.1 d ht (fun h => kt h C H locs ls hE hP hS hl) (fun h => kf h C H locs ls hE hP hS hl)
theorem r_if_gt (tgt : Nat) {a : Int32} {off : Int} (d : decode cc pc = .ok (.ifCond .gt off, 3)) (ht : (pc : Int) + off = (tgt : Int)) (kt : 0 < a → Vj x g y cc nL ret R Q k sl M tgt lv rest) (kf : ¬ 0 < a → Vj x g y cc nL ret R Q k sl M (pc + 3) lv rest) : Vj x g y cc nL ret R Q k sl M pc lv (.int a :: rest) := fun C H locs ls hE hP hS hl => lv_if_gt C.1 C.2.1 d ht (fun h => kt h C H locs ls hE hP hS hl) (fun h => kf h C H locs ls hE hP hS hl)
theorem r_icmp_gt (tgt : Nat) {a b : Int32} {off : Int} (d : decode cc pc = .ok (.if_icmp .gt off, 3)) (ht : (pc : Int) + off = (tgt : Int)) (kt : b < a → Vj x g y cc nL ret R Q k sl M tgt lv rest) (kf : ¬ b < a → Vj x g y cc nL ret R Q k sl M (pc + 3) lv rest) : Vj x g y cc nL ret R Q k sl M pc lv (.int b :: .int a :: rest) := fun C H locs ls hE hP hS hl => lv_icmp_gt C.1 C.2.1 d ht (fun h => kt h C H locs ls hE hP hS hl) (fun h => kf h C H locs ls hE hP hS hl)
theorem r_if_le (tgt : Nat) {a : Int32} {off : Int} (d : decode cc pc = .ok (.ifCond .le off, 3)) (ht : (pc : Int) + off = (tgt : Int)) (kt : a ≤ 0 → Vj x g y cc nL ret R Q k sl M tgt lv rest) (kf : ¬ a ≤ 0 → Vj x g y cc nL ret R Q k sl M (pc + 3) lv rest) : Vj x g y cc nL ret R Q k sl M pc lv (.int a :: rest) := fun C H locs ls hE hP hS hl => lv_if_le C.1 C.2.1 d ht (fun h => kt h C H locs ls hE hP hS hl) (fun h => kf h C H locs ls hE hP hS hl)
theorem r_icmp_le (tgt : Nat) {a b : Int32} {off : Int} (d : decode cc pc = .ok (.if_icmp .le off, 3)) (ht : (pc : Int) + off = (tgt : Int)) (kt : a ≤ b → Vj x g y cc nL ret R Q k sl M tgt lv rest) (kf : ¬ a ≤ b → Vj x g y cc nL ret R Q k sl M (pc + 3) lv rest) : Vj x g y cc nL ret R Q k sl M pc lv (.int b :: .int a :: rest) := fun C H locs ls hE hP hS hl => lv_icmp_le C.1 C.2.1 d ht (fun h => kt h C H locs ls hE hP hS hl) (fun h => kf h C H locs ls hE hP hS hl)
theorem r_goto (tgt : Nat) {off : Int} {st : List Value} (d : decode cc pc = .ok (.goto off, 3)) (ht : (pc : Int) + off = (tgt : Int)) (kk : Vj x g y cc nL ret R Q k sl M tgt lv st) : Vj x g y cc nL ret R Q k sl M pc lv st := fun C H locs ls hE hP hS hl => lv_goto C.1 C.2.1 d ht (kk C H locs ls hE hP hS hl)
theorem r_lookup (tgt : Nat) {dflt : Int} {ps : Array (Int × Int)} {len : Nat} {a : Int32} {off : Int} (d : decode cc pc = .ok (.lookupswitch dflt ps, len)) (hp : (ps.toList.zip (ps.toList.drop 1)).all (fun (a, next) => a.1 < next.1) = true) (ho : Op.lookupswitch.offset ps.toList dflt a.toInt = off) (ht : (pc : Int) + off = (tgt : Int)) (kk : Vj x g y cc nL ret R Q k sl M tgt lv rest) : Vj x g y cc nL ret R Q k sl M pc lv (.int a :: rest) := fun C H locs ls hE hP hS hl => lv_lookup C.1 C.2.1 d hp ho ht (kk C H locs ls hE hP hS hl)
theorem r_tableOut (tgt : Nat) {dflt lo hi : Int} {offs : Array Int} {len : Nat} {a : Int32} (d : decode cc pc = .ok (.tableswitch dflt lo hi offs, len)) (h : a.toInt < lo ∨ hi < a.toInt) (ht : (pc : Int) + dflt = (tgt : Int)) (kk : Vj x g y cc nL ret R Q k sl M tgt lv rest) : Vj x g y cc nL ret R Q k sl M pc lv (.int a :: rest) := fun C H locs ls hE hP hS hl => lv_tableOut C.1 C.2.1 d h ht (kk C H locs ls hE hP hS hl)
theorem r_tableIn (tgt : Nat) {dflt lo hi : Int} {offs : Array Int} {len : Nat} {a : Int32} {off : Int} (d : decode cc pc = .ok (.tableswitch dflt lo hi offs, len)) (h1 : ¬ a.toInt < lo) (h2 : ¬ hi < a.toInt) (ho : offs[(a.toInt - lo).toNat]? = some off) (ht : (pc : Int) + off = (tgt : Int)) (kk : Vj x g y cc nL ret R Q k sl M tgt lv rest) : Vj x g y cc nL ret R Q k sl M pc lv (.int a :: rest) := fun C H locs ls hE hP hS hl => lv_tableIn C.1 C.2.1 d h1 h2 ho ht (kk C H locs ls hE hP hS hl)
/-- the field that entry idx of own names is slot n of kind ci -/
def FL (own : String) (idx ci n : Nat) : Prop := ∃ (C : String) (T : u_T) (N : Nat), vwCl[ci]? = some (C, T, N) ∧ n < N ∧ (∀ w ∈ u_ws C T N, w ∈ TB) ∧ Cond.fieldLink own idx (T n).1 (T n).2.1 (T n).2.2.1 ∈ TB
def FP (own : String) (idx ci n : Nat) (fin : Bool) (ty : FieldType) : Prop := ∃ (C : String) (T : u_T) (N : Nat), vwCl[ci]? = some (C, T, N) ∧ n < N ∧ (∀ w ∈ u_ws C T N, w ∈ TB) ∧ Cond.fieldLink own idx (T n).1 (T n).2.1 (T n).2.2.1 ∈ TB ∧ (∃ ty0 : Nat → FieldType, ∀ k, k < N → parseFieldDescriptor (T k).2.2.1 = some (ty0 k)) ∧ (∀ a, a < N → ∀ b, b < N → a ≠ b → (T a).2.1 ≠ (T b).2.1) ∧ (T n).2.2.2 = fin ∧ parseFieldDescriptor (T n).2.2.1 = some ty ∧ (fin = true → (T n).1 = own)
theorem wl_obj {a ci : Nat} (ha : a < mN M) (hT : mT M a = .inl ci) : (wl g M)[a]? = some (g.1 + a, .inr (ci, flds g.1 M a ci)) := by rw [wl_at ha, cel_obj hT]
theorem flds_I {a ci n : Nat} (hk : (fkd ci)[n]? = some 0) : (flds g.1 M a ci)[n]? = some (.int (mI M a n)) := by rw [flds_get, hk]; rfl
theorem flds_L {a ci n : Nat} (hk : (fkd ci)[n]? = some 1) : (flds g.1 M a ci)[n]? = some (.long (mL M a n)) := by rw [flds_get, hk]; rfl
theorem flds_R {a ci n j : Nat} (hk : (fkd ci)[n]? = some 2) (hR : mR M a n = some j) : (flds g.1 M a ci)[n]? = some (.ref (g.1 + j)) := by rw [flds_get, hk]; simp [fval, hR, va_rf]
theorem flds_len {a ci n d : Nat} (hk : (fkd ci)[n]? = some d) : n < (flds g.1 M a ci).length := by
  rcases Nat.lt_or_ge n (flds g.1 M a ci).length with h | h
  · exact h
  · have h2 := flds_get g.1 M a ci n
    rw [List.getElem?_eq_none h, hk] at h2
    cases h2
theorem r_getI {a ci n idx : Nat} (f : FL y.cls idx ci n) (hk : (fkd ci)[n]? = some 0) (ha : a < mN M) (hT : mT M a = .inl ci) (d : decode cc pc = .ok (.getfield idx, 3)) (kk : Vj x g y cc nL ret R Q k sl M (pc + 3) lv (.int (mI M a n) :: rest)) : Vj x g y cc nL ret R Q k sl M pc lv (.ref (g.1 + a) :: rest) := fun C H locs ls hE hP hS hl => by
  obtain ⟨C', T, N, h1, h2, h3, h4⟩ := f
  exact va_get (D := g.2.1) C.1 C.2.1 C.2.2.2.2.1 h3 C.2.2.2.1 C.2.2.2.2.2.1.1 hP a (wl_obj ha hT) h1 n h2 (C.2.2.2.2.1 _ h4) (fun _ h => h) (flds_I hk) d (kk C H locs ls hE hP hS hl)
theorem r_getL {a ci n idx : Nat} (f : FL y.cls idx ci n) (hk : (fkd ci)[n]? = some 1) (ha : a < mN M) (hT : mT M a = .inl ci) (d : decode cc pc = .ok (.getfield idx, 3)) (kk : Vj x g y cc nL ret R Q k sl M (pc + 3) lv (.long (mL M a n) :: rest)) : Vj x g y cc nL ret R Q k sl M pc lv (.ref (g.1 + a) :: rest) := fun C H locs ls hE hP hS hl => by
  obtain ⟨C', T, N, h1, h2, h3, h4⟩ := f
  exact va_get (D := g.2.1) C.1 C.2.1 C.2.2.2.2.1 h3 C.2.2.2.1 C.2.2.2.2.2.1.1 hP a (wl_obj ha hT) h1 n h2 (C.2.2.2.2.1 _ h4) (fun _ h => h) (flds_L hk) d (kk C H locs ls hE hP hS hl)
theorem r_getR {a ci n idx j : Nat} (f : FL y.cls idx ci n) (hk : (fkd ci)[n]? = some 2) (ha : a < mN M) (hT : mT M a = .inl ci) (hR : mR M a n = some j) (d : decode cc pc = .ok (.getfield idx, 3)) (kk : Vj x g y cc nL ret R Q k sl M (pc + 3) lv (.ref (g.1 + j) :: rest)) : Vj x g y cc nL ret R Q k sl M pc lv (.ref (g.1 + a) :: rest) := fun C H locs ls hE hP hS hl => by
  obtain ⟨C', T, N, h1, h2, h3, h4⟩ := f
  exact va_get (D := g.2.1) C.1 C.2.1 C.2.2.2.2.1 h3 C.2.2.2.1 C.2.2.2.2.2.1.1 hP a (wl_obj ha hT) h1 n h2 (C.2.2.2.2.1 _ h4) (fun _ h => h) (flds_R hk hR) d (kk C H locs ls hE hP hS hl)
theorem r_putI {a ci n idx : Nat} {v : Int32} {ty : FieldType} (f : FP y.cls idx ci n false ty) (hk : (fkd ci)[n]? = some 0) (ha : a < mN M) (hT : mT M a = .inl ci) (hnr : narrow ty (.int v) = .int v) (hft : fits ty (.int v) = true) (d : decode cc pc = .ok (.putfield idx, 3)) (kk : Vj x g y cc nL ret R Q k sl (sI M a n v) (pc + 3) lv rest) : Vj x g y cc nL ret R Q k sl M pc lv (.int v :: .ref (g.1 + a) :: rest) := fun C H locs ls hE hP hS hl => by
  obtain ⟨C', T, N, h1, h2, h3, h4, ⟨ty0, h5⟩, h6, h7, h8, h9⟩ := f
  exact va_put (D := g.2.1) C.1 C.2.1 C.2.2.2.2.1 h3 ty0 h5 h6 C.2.2.2.1 C.2.2.2.2.2.1.1 hP (wl_D g M) hS a (wl_obj ha hT) h1 n h2 (C.2.2.2.2.1 _ h4) (fun _ h => h) h7 h8 hnr hft (flds_len hk) d (fun H1 locs1 hP1 _ hS1 => kk C H1 locs1 ls hE (by rw [← wl_setFI hT hk]; exact hP1) hS1 hl)
theorem r_putIF {a ci n idx : Nat} {v : Int32} {ty : FieldType} (f : FP y.cls idx ci n true ty) (hk : (fkd ci)[n]? = some 0) (ha : a < mN M) (hT : mT M a = .inl ci) (hin : y.name = "<init>") (hnr : narrow ty (.int v) = .int v) (hft : fits ty (.int v) = true) (d : decode cc pc = .ok (.putfield idx, 3)) (kk : Vj x g y cc nL ret R Q k sl (sI M a n v) (pc + 3) lv rest) : Vj x g y cc nL ret R Q k sl M pc lv (.int v :: .ref (g.1 + a) :: rest) := fun C H locs ls hE hP hS hl => by
  obtain ⟨C', T, N, h1, h2, h3, h4, ⟨ty0, h5⟩, h6, h7, h8, h9⟩ := f
  exact va_putF (D := g.2.1) C.1 C.2.1 C.2.2.2.2.1 h3 ty0 h5 h6 C.2.2.2.1 C.2.2.2.2.2.1.1 hP (wl_D g M) hS a (wl_obj ha hT) h1 n h2 (C.2.2.2.2.1 _ h4) (fun _ h => h) h7 (C.2.2.2.2.2.2.2.2.2.trans hin) (h9 rfl) h8 hnr hft (flds_len hk) d (fun H1 locs1 hP1 _ hS1 => kk C H1 locs1 ls hE (by rw [← wl_setFI hT hk]; exact hP1) hS1 hl)
theorem r_putL {a ci n idx : Nat} {v : Int64} (f : FP y.cls idx ci n false .long) (hk : (fkd ci)[n]? = some 1) (ha : a < mN M) (hT : mT M a = .inl ci) (d : decode cc pc = .ok (.putfield idx, 3)) (kk : Vj x g y cc nL ret R Q k sl (sL M a n v) (pc + 3) lv rest) : Vj x g y cc nL ret R Q k sl M pc lv (.long v :: .ref (g.1 + a) :: rest) := fun C H locs ls hE hP hS hl => by
  obtain ⟨C', T, N, h1, h2, h3, h4, ⟨ty0, h5⟩, h6, h7, h8, h9⟩ := f
  exact va_put (D := g.2.1) C.1 C.2.1 C.2.2.2.2.1 h3 ty0 h5 h6 C.2.2.2.1 C.2.2.2.2.2.1.1 hP (wl_D g M) hS a (wl_obj ha hT) h1 n h2 (C.2.2.2.2.1 _ h4) (fun _ h => h) h7 h8 rfl rfl (flds_len hk) d (fun H1 locs1 hP1 _ hS1 => kk C H1 locs1 ls hE (by rw [← wl_setFL hT hk]; exact hP1) hS1 hl)
theorem r_putLF {a ci n idx : Nat} {v : Int64} (f : FP y.cls idx ci n true .long) (hk : (fkd ci)[n]? = some 1) (ha : a < mN M) (hT : mT M a = .inl ci) (hin : y.name = "<init>") (d : decode cc pc = .ok (.putfield idx, 3)) (kk : Vj x g y cc nL ret R Q k sl (sL M a n v) (pc + 3) lv rest) : Vj x g y cc nL ret R Q k sl M pc lv (.long v :: .ref (g.1 + a) :: rest) := fun C H locs ls hE hP hS hl => by
  obtain ⟨C', T, N, h1, h2, h3, h4, ⟨ty0, h5⟩, h6, h7, h8, h9⟩ := f
  exact va_putF (D := g.2.1) C.1 C.2.1 C.2.2.2.2.1 h3 ty0 h5 h6 C.2.2.2.1 C.2.2.2.2.2.1.1 hP (wl_D g M) hS a (wl_obj ha hT) h1 n h2 (C.2.2.2.2.1 _ h4) (fun _ h => h) h7 (C.2.2.2.2.2.2.2.2.2.trans hin) (h9 rfl) h8 rfl rfl (flds_len hk) d (fun H1 locs1 hP1 _ hS1 => kk C H1 locs1 ls hE (by rw [← wl_setFL hT hk]; exact hP1) hS1 hl)
theorem r_putR {a ci n idx : Nat} {v : Nat} {ty : FieldType} (f : FP y.cls idx ci n false ty) (hk : (fkd ci)[n]? = some 2) (ha : a < mN M) (hT : mT M a = .inl ci) (hnr : narrow ty (.ref (g.1 + v)) = .ref (g.1 + v)) (hft : fits ty (.ref (g.1 + v)) = true) (d : decode cc pc = .ok (.putfield idx, 3)) (kk : Vj x g y cc nL ret R Q k sl (sR M a n (some v)) (pc + 3) lv rest) : Vj x g y cc nL ret R Q k sl M pc lv (.ref (g.1 + v) :: .ref (g.1 + a) :: rest) := fun C H locs ls hE hP hS hl => by
  obtain ⟨C', T, N, h1, h2, h3, h4, ⟨ty0, h5⟩, h6, h7, h8, h9⟩ := f
  exact va_put (D := g.2.1) C.1 C.2.1 C.2.2.2.2.1 h3 ty0 h5 h6 C.2.2.2.1 C.2.2.2.2.2.1.1 hP (wl_D g M) hS a (wl_obj ha hT) h1 n h2 (C.2.2.2.2.1 _ h4) (fun _ h => h) h7 h8 hnr hft (flds_len hk) d (fun H1 locs1 hP1 _ hS1 => kk C H1 locs1 ls hE (by rw [← wl_setFR hT hk]; exact hP1) hS1 hl)
theorem r_putRF {a ci n idx : Nat} {v : Nat} {ty : FieldType} (f : FP y.cls idx ci n true ty) (hk : (fkd ci)[n]? = some 2) (ha : a < mN M) (hT : mT M a = .inl ci) (hin : y.name = "<init>") (hnr : narrow ty (.ref (g.1 + v)) = .ref (g.1 + v)) (hft : fits ty (.ref (g.1 + v)) = true) (d : decode cc pc = .ok (.putfield idx, 3)) (kk : Vj x g y cc nL ret R Q k sl (sR M a n (some v)) (pc + 3) lv rest) : Vj x g y cc nL ret R Q k sl M pc lv (.ref (g.1 + v) :: .ref (g.1 + a) :: rest) := fun C H locs ls hE hP hS hl => by
  obtain ⟨C', T, N, h1, h2, h3, h4, ⟨ty0, h5⟩, h6, h7, h8, h9⟩ := f
  exact va_putF (D := g.2.1) C.1 C.2.1 C.2.2.2.2.1 h3 ty0 h5 h6 C.2.2.2.1 C.2.2.2.2.2.1.1 hP (wl_D g M) hS a (wl_obj ha hT) h1 n h2 (C.2.2.2.2.1 _ h4) (fun _ h => h) h7 (C.2.2.2.2.2.2.2.2.2.trans hin) (h9 rfl) h8 hnr hft (flds_len hk) d (fun H1 locs1 hP1 _ hS1 => kk C H1 locs1 ls hE (by rw [← wl_setFR hT hk]; exact hP1) hS1 hl)
theorem r_iaload {a n : Nat} {i : Int32} (hT : mT M a = .inr (0, n)) (ha : a < mN M) (hi : vp_in i n) (d : decode cc pc = .ok (.iaload, 1)) (kk : Vj x g y cc nL ret R Q k sl M (pc + 1) lv (.int (mI M a i.toNatClampNeg) :: rest)) : Vj x g y cc nL ret R Q k sl M pc lv (.int i :: .ref (g.1 + a) :: rest) := fun C H locs ls hE hP hS hl => va_iald C.1 C.2.1 C.2.2.2.2.2.1.1 hP a 0 (by rw [wl_at ha, cel_I hT]) rfl hi d (kk C H locs ls hE hP hS hl)
theorem r_zaload {a n : Nat} {i : Int32} (hT : mT M a = .inr (2, n)) (ha : a < mN M) (hi : vp_in i n) (d : decode cc pc = .ok (.baload, 1)) (kk : Vj x g y cc nL ret R Q k sl M (pc + 1) lv (.int (mI M a i.toNatClampNeg) :: rest)) : Vj x g y cc nL ret R Q k sl M pc lv (.int i :: .ref (g.1 + a) :: rest) := fun C H locs ls hE hP hS hl => va_zald C.1 C.2.1 C.2.2.2.2.2.1.1 hP a 2 (by rw [wl_at ha, cel_Z hT]) rfl hi d (kk C H locs ls hE hP hS hl)
theorem r_laload {a n : Nat} {i : Int32} (hT : mT M a = .inr (1, n)) (ha : a < mN M) (hi : vp_in i n) (d : decode cc pc = .ok (.laload, 1)) (kk : Vj x g y cc nL ret R Q k sl M (pc + 1) lv (.long (mL M a i.toNatClampNeg) :: rest)) : Vj x g y cc nL ret R Q k sl M pc lv (.int i :: .ref (g.1 + a) :: rest) := fun C H locs ls hE hP hS hl => va_lald C.1 C.2.1 C.2.2.2.2.2.1.1 hP a 1 (by rw [wl_at ha, cel_L hT]) rfl hi d (kk C H locs ls hE hP hS hl)
theorem r_aaload {a n j : Nat} {i : Int32} (hT : mT M a = .inr (3, n)) (ha : a < mN M) (hi : vp_in i n) (hR : mR M a i.toNatClampNeg = some j) (d : decode cc pc = .ok (.aaload, 1)) (kk : Vj x g y cc nL ret R Q k sl M (pc + 1) lv (.ref (g.1 + j) :: rest)) : Vj x g y cc nL ret R Q k sl M pc lv (.int i :: .ref (g.1 + a) :: rest) := fun C H locs ls hE hP hS hl => va_aldq C.1 C.2.1 C.2.2.2.2.2.1.1 hP a 3 (by rw [wl_at ha, cel_R hT]) rfl hi d (by rw [hR]; exact kk C H locs ls hE hP hS hl)
theorem r_iastore {a n : Nat} {i v : Int32} (hT : mT M a = .inr (0, n)) (ha : a < mN M) (hi : vp_in i n) (d : decode cc pc = .ok (.iastore, 1)) (kk : Vj x g y cc nL ret R Q k sl (sI M a i.toNatClampNeg v) (pc + 1) lv rest) : Vj x g y cc nL ret R Q k sl M pc lv (.int v :: .int i :: .ref (g.1 + a) :: rest) := fun C H locs ls hE hP hS hl => va_iast C.1 C.2.1 C.2.2.2.2.2.1.1 hP (wl_D g M) hS a 0 (by rw [wl_at ha, cel_I hT]) rfl hi d (fun H1 locs1 hP1 _ hS1 => by exact kk C H1 locs1 ls hE (by rw [← wl_setAI hT]; exact hP1) hS1 hl)
theorem r_lastore {a n : Nat} {i : Int32} {v : Int64} (hT : mT M a = .inr (1, n)) (ha : a < mN M) (hi : vp_in i n) (d : decode cc pc = .ok (.lastore, 1)) (kk : Vj x g y cc nL ret R Q k sl (sL M a i.toNatClampNeg v) (pc + 1) lv rest) : Vj x g y cc nL ret R Q k sl M pc lv (.long v :: .int i :: .ref (g.1 + a) :: rest) := fun C H locs ls hE hP hS hl => va_last C.1 C.2.1 C.2.2.2.2.2.1.1 hP (wl_D g M) hS a 1 (by rw [wl_at ha, cel_L hT]) rfl hi d (fun H1 locs1 hP1 _ hS1 => by exact kk C H1 locs1 ls hE (by rw [← wl_setAL hT]; exact hP1) hS1 hl)
theorem r_zastore {a n : Nat} {i v : Int32} (hT : mT M a = .inr (2, n)) (ha : a < mN M) (hi : vp_in i n) (hv : vp_nar .boolean v = v) (d : decode cc pc = .ok (.bastore, 1)) (kk : Vj x g y cc nL ret R Q k sl (sI M a i.toNatClampNeg v) (pc + 1) lv rest) : Vj x g y cc nL ret R Q k sl M pc lv (.int v :: .int i :: .ref (g.1 + a) :: rest) := fun C H locs ls hE hP hS hl => va_zast C.1 C.2.1 C.2.2.2.2.2.1.1 hP (wl_D g M) hS a 2 (by rw [wl_at ha, cel_Z hT]) rfl hi d (fun H1 locs1 hP1 _ hS1 => by rw [hv] at hP1; exact kk C H1 locs1 ls hE (by rw [← wl_setAZ hT]; exact hP1) hS1 hl)
theorem r_aastore {a n v ci : Nat} {i : Int32} {r : vw_C} (hT : mT M a = .inr (3, n)) (ha : a < mN M) (hv : v < mN M) (hTv : mT M v = .inl ci) (hc : vwCl[ci]? = some r) (hca : r.1 = RX7 ∨ (r.1, RX7) ∈ caP) (hi : vp_in i n) (d : decode cc pc = .ok (.aastore, 1)) (kk : Vj x g y cc nL ret R Q k sl (sR M a i.toNatClampNeg (some v)) (pc + 1) lv rest) : Vj x g y cc nL ret R Q k sl M pc lv (.ref (g.1 + v) :: .int i :: .ref (g.1 + a) :: rest) := fun C H locs ls hE hP hS hl => by
  rcases hca with h | h
  · exact va_astq C.1 C.2.1 C.2.2.2.2.2.1.1 hP (wl_D g M) hS a 3 v ci (by rw [wl_at ha, cel_R hT]) (by rw [h]; rfl) (wl_obj hv hTv) hc hi d (fun H1 locs1 hP1 _ hS1 => kk C H1 locs1 ls hE (by rw [← wl_setAR hT]; exact hP1) hS1 hl)
  · exact va_astqO C.1 C.2.1 C.2.2.2.2.2.1.1 hP (wl_D g M) hS a 3 v ci (by rw [wl_at ha, cel_R hT]) rfl (C.2.2.2.2.2.1.2.2.2.1 _ h) (wl_obj hv hTv) hc hi d (fun H1 locs1 hP1 _ hS1 => kk C H1 locs1 ls hE (by rw [← wl_setAR hT]; exact hP1) hS1 hl)
theorem r_alenI {a n : Nat} (hT : mT M a = .inr (0, n)) (ha : a < mN M) (d : decode cc pc = .ok (.arraylength, 1)) (kk : Vj x g y cc nL ret R Q k sl M (pc + 1) lv (.int (Int32.ofNat n) :: rest)) : Vj x g y cc nL ret R Q k sl M pc lv (.ref (g.1 + a) :: rest) := fun C H locs ls hE hP hS hl => va_alen (x := (n, .inl (mI M a))) C.1 C.2.1 C.2.2.2.2.2.1.1 hP a 0 (by rw [wl_at ha, cel_I hT]) rfl rfl d (kk C H locs ls hE hP hS hl)
theorem r_sld {b n : Nat} {zs : Nat → Int32} {i : Int32} (hX : va_X b n zs x.2.2.2.1 x.2.2.2.1.heap) (hb : b < x.2.2.2.1.heap.size) (hg : b < g.1) (hi : vp_in i n) (d : decode cc pc = .ok (.iaload, 1)) (kk : Vj x g y cc nL ret R Q k sl M (pc + 1) lv (.int (zs i.toNatClampNeg) :: rest)) : Vj x g y cc nL ret R Q k sl M pc lv (.int i :: .ref b :: rest) := fun C H locs ls hE hP hS hl => va_sld C.1 C.2.1 hX hb (Nat.not_le.mpr hg) hS hi d (kk C H locs ls hE hP hS hl)
theorem r_slen {b n : Nat} {zs : Nat → Int32} (hX : va_X b n zs x.2.2.2.1 x.2.2.2.1.heap) (hb : b < x.2.2.2.1.heap.size) (hg : b < g.1) (d : decode cc pc = .ok (.arraylength, 1)) (kk : Vj x g y cc nL ret R Q k sl M (pc + 1) lv (.int (Int32.ofNat n) :: rest)) : Vj x g y cc nL ret R Q k sl M pc lv (.ref b :: rest) := fun C H locs ls hE hP hS hl => va_slen C.1 C.2.1 hX hb (Nat.not_le.mpr hg) hS d (kk C H locs ls hE hP hS hl)
theorem r_iret {v : Int32} {post : Option Value → Mm → Prop} (d : decode cc pc = .ok (.ireturn, 1)) (h : post (some (.int v)) M) : Vj x g y cc nL (some .int) R (Qm x g k sl post) k sl M pc lv [.int v] := fun C H locs ls hE hP hS hl => W.iret C.1 C.2.1 C.2.2.2.2.2.2.1 (fun t ht hW => ⟨⟨_, M, rfl, h, hE, by rw [ht]; exact hP⟩, hS.F ht⟩) hS.2.2 d C.2.2.2.2.2.2.2.1
theorem r_lret {v : Int64} {post : Option Value → Mm → Prop} (d : decode cc pc = .ok (.lreturn, 1)) (h : post (some (.long v)) M) : Vj x g y cc nL (some .long) R (Qm x g k sl post) k sl M pc lv [.long v] := fun C H locs ls hE hP hS hl => W.lret C.1 C.2.1 C.2.2.2.2.2.2.1 (fun t ht hW => ⟨⟨_, M, rfl, h, hE, by rw [ht]; exact hP⟩, hS.F ht⟩) hS.2.2 d C.2.2.2.2.2.2.2.1
theorem r_zret {v : Int32} {post : Option Value → Mm → Prop} (hn : narrow .boolean (.int v) = .int v) (d : decode cc pc = .ok (.ireturn, 1)) (h : post (some (.int v)) M) : Vj x g y cc nL (some .boolean) R (Qm x g k sl post) k sl M pc lv [.int v] := fun C H locs ls hE hP hS hl => W.zret C.1 C.2.1 C.2.2.2.2.2.2.1 hn (fun t ht hW => ⟨⟨_, M, rfl, h, hE, by rw [ht]; exact hP⟩, hS.F ht⟩) hS.2.2 d C.2.2.2.2.2.2.2.1
theorem r_aret {v : Nat} {nm : String} {post : Option Value → Mm → Prop} (d : decode cc pc = .ok (.areturn, 1)) (h : post (some (.ref v)) M) : Vj x g y cc nL (some (.object nm)) R (Qm x g k sl post) k sl M pc lv [.ref v] := fun C H locs ls hE hP hS hl => W.aret C.1 C.2.1 C.2.2.2.2.2.2.1 (Or.inl ⟨_, rfl⟩) (Or.inr ⟨_, rfl⟩) (fun t ht hW => ⟨⟨_, M, rfl, h, hE, by rw [ht]; exact hP⟩, hS.F ht⟩) hS.2.2 d C.2.2.2.2.2.2.2.1
theorem r_ret {post : Option Value → Mm → Prop} (d : decode cc pc = .ok (.return_, 1)) (h : post none M) : Vj x g y cc nL none R (Qm x g k sl post) k sl M pc lv [] := fun C H locs ls hE hP hS hl => W.vret C.1 C.2.1 C.2.2.2.2.2.2.1 (fun t ht hW => ⟨⟨_, M, rfl, h, hE, by rw [ht]; exact hP⟩, hS.F ht⟩) hS.2.2 d C.2.2.2.2.2.2.2.1
end Rows
end
section
section Make
variable {x : Cx} {g : Gx} {y : MethodName} {cc : ByteArray} {nL : Nat} {ret : Option FieldType} {R : Room} {Q : State → Prop} {k sl : Nat} {M : Mm} {pc : Nat} {lv : Lv} {rest : List Value}
def fs0 (ci : Nat) : List Value := (fkd ci).map (fun d => match d with
  | 0 => .int 0
  | 1 => .long 0
  | _ => .null)
theorem flds_new (z : Nat) (M : Mm) (sh : Sh) (ci : Nat) : flds z (aN M sh) (mN M) ci = fs0 ci := by
  apply List.ext_getElem?
  intro j
  rw [flds_get, fs0, List.getElem?_map]
  congr 1
  funext d
  match d with
  | 0 => simp only [fval, mI_aN]
  | 1 => simp only [fval, mL_aN]
  | _ + 2 => simp only [fval, mR_aN]; rfl
theorem pin {D : va_G} {cl : List vw_C} {H1 : Heap} {q : Nat} {e : va_E} (hP1 : va_P D cl (wl g M ++ [(q, e)]) H1) (hD1 : va_D (fun q => g.1 ≤ q) (wl g M ++ [(q, e)])) (hsz : H1.size ≤ g.1 + mN M + 1) : q = g.1 + mN M := by
  have hg : (wl g M ++ [(q, e)])[mN M]? = some (q, e) := by
    rw [List.getElem?_append_right (by rw [wl_len]; exact Nat.le_refl _), wl_len, Nat.sub_self]
    rfl
  have h1 : q < H1.size := (hP1 _ _ hg).lt
  have h2 : g.1 ≤ q := hD1.2 _ _ hg
  rcases Nat.lt_or_ge q (g.1 + mN M) with h | h
  · exfalso
    have hi : (wl g M ++ [(q, e)])[q - g.1]? = some (g.1 + (q - g.1), cel g M (q - g.1)) := by
      rw [List.getElem?_append_left (by rw [wl_len]; omega), wl_at (by omega)]
    have := hD1.1 _ _ _ _ hi hg (by show g.1 + (q - g.1) = q; omega)
    omega
  · omega
/-- entry idx of own makes an object of kind ci with n slots -/
def NW (own : String) (idx ci n : Nat) : Prop := ∃ (C : String) (T : u_T) (ty0 : Nat → FieldType), vwCl[ci]? = some (C, T, n) ∧ (∀ w ∈ u_ws C T n, w ∈ TB) ∧ (∀ k, k < n → parseFieldDescriptor (T k).2.2.1 = some (ty0 k)) ∧ Cond.classLink own idx C ∈ TB ∧ Cond.instantiable C n ∈ TB ∧ Cond.initialized C ∈ TB ∧ (∀ j, j < n → defaultValue (ty0 j) = vp_V (fs0 ci) j)
theorem r_new {idx ci n : Nat} (f : NW y.cls idx ci n) (hk : k + 1 ≤ R.cells) (hs : sl + n ≤ R.slots) (d : decode cc pc = .ok (.new idx, 3)) (kk : Vj x g y cc nL ret R Q (k + 1) (sl + n) (aN M (.inl ci)) (pc + 3) lv (.ref (g.1 + mN M) :: rest)) : Vj x g y cc nL ret R Q k sl M pc lv rest := fun C H locs ls hE hP hS hl => by
  obtain ⟨C', T, ty0, h1, h2, h3, h4, h5, h6, h7⟩ := f
  refine va_new C.1 C.2.1 C.2.2.2.2.1 h2 ty0 h3 C.2.2.2.1 (C.2.2.2.2.1 _ h4) (C.2.2.2.2.1 _ h5) (C.2.2.2.2.1 _ h6) C.2.2.2.2.2.1.1 hP (wl_D g M) hS (fun q hq => Nat.le_trans C.2.2.2.2.2.2.2.2.1 hq) h1 h7 hk hs d (fun q H1 hP1 hD1 hS1 T hT X => ?_)
  have hz : T.heap.size ≤ x.2.2.2.1.heap.size + (k + 1) := X.heapSize
  have hq := pin hP1 hD1 (by rw [hT] at hz; omega)
  subst hq
  refine kk C H1 locs ls (by rw [mN_aN]; omega) ?_ hS1 hl T hT X
  rw [wl_push, cel_obj (mT_aN M _), flds_new]
  exact hP1
theorem r_newaI {v : Int32} {n : Nat} (hw : Cond.arrayClass .int ∈ TB) (hv : ¬ v < 0) (hn : v.toNatClampNeg = n) (hb : n * componentBytes .int ≤ 536870912) (hk : k + 1 ≤ R.cells) (hs : sl + n ≤ R.slots) (d : decode cc pc = .ok (.newarray .int, 2)) (kk : Vj x g y cc nL ret R Q (k + 1) (sl + n) (aN M (.inr (0, n))) (pc + 2) lv (.ref (g.1 + mN M) :: rest)) : Vj x g y cc nL ret R Q k sl M pc lv (.int v :: rest) := fun C H locs ls hE hP hS hl => by
  refine va_newa (atype := .int) (ty := .int) (a0 := (n, .inl (fun _ => 0))) C.1 C.2.1 (C.2.2.2.2.1 _ hw) rfl C.2.2.2.2.2.1.1 hP (wl_D g M) hS (fun q hq => Nat.le_trans C.2.2.2.2.2.2.2.2.1 hq) (fun cA => rfl) hv hn hb hk hs d (fun q cA H1 hK1 hP1 hD1 hS1 T hT X => ?_)
  have hz : T.heap.size ≤ x.2.2.2.1.heap.size + (k + 1) := X.heapSize
  have hq := pin hP1 hD1 (by rw [hT] at hz; omega)
  subst hq
  have hc : cA = g.2.2.1 := by
    have e1 := (hK1.2 4 (cA, .int) rfl).2
    have e2 := (C.2.2.2.2.2.1.1.2 0 (g.2.2.1, .int) rfl).2
    exact Option.some.inj (e1.symm.trans e2)
  subst hc
  refine kk C H1 locs ls (by rw [mN_aN]; omega) ?_ hS1 hl T hT X
  rw [wl_push, cel_I (mT_aN M _), mI_aN]
  exact hP1
theorem r_newaJ {v : Int32} {n : Nat} (hw : Cond.arrayClass .long ∈ TB) (hv : ¬ v < 0) (hn : v.toNatClampNeg = n) (hb : n * componentBytes .long ≤ 536870912) (hk : k + 1 ≤ R.cells) (hs : sl + n ≤ R.slots) (d : decode cc pc = .ok (.newarray .long, 2)) (kk : Vj x g y cc nL ret R Q (k + 1) (sl + n) (aN M (.inr (1, n))) (pc + 2) lv (.ref (g.1 + mN M) :: rest)) : Vj x g y cc nL ret R Q k sl M pc lv (.int v :: rest) := fun C H locs ls hE hP hS hl => by
  refine va_newa (atype := .long) (ty := .long) (a0 := (n, .inr (.inl (fun _ => 0)))) C.1 C.2.1 (C.2.2.2.2.1 _ hw) rfl C.2.2.2.2.2.1.1 hP (wl_D g M) hS (fun q hq => Nat.le_trans C.2.2.2.2.2.2.2.2.1 hq) (fun cA => rfl) hv hn hb hk hs d (fun q cA H1 hK1 hP1 hD1 hS1 T hT X => ?_)
  have hz : T.heap.size ≤ x.2.2.2.1.heap.size + (k + 1) := X.heapSize
  have hq := pin hP1 hD1 (by rw [hT] at hz; omega)
  subst hq
  have hc : cA = g.2.2.2.1 := by
    have e1 := (hK1.2 4 (cA, .long) rfl).2
    have e2 := (C.2.2.2.2.2.1.1.2 1 (g.2.2.2.1, .long) rfl).2
    exact Option.some.inj (e1.symm.trans e2)
  subst hc
  refine kk C H1 locs ls (by rw [mN_aN]; omega) ?_ hS1 hl T hT X
  rw [wl_push, cel_L (mT_aN M _), mL_aN]
  exact hP1
theorem r_newaZ {v : Int32} {n : Nat} (hw : Cond.arrayClass .boolean ∈ TB) (hv : ¬ v < 0) (hn : v.toNatClampNeg = n) (hb : n * componentBytes .boolean ≤ 536870912) (hk : k + 1 ≤ R.cells) (hs : sl + n ≤ R.slots) (d : decode cc pc = .ok (.newarray .boolean, 2)) (kk : Vj x g y cc nL ret R Q (k + 1) (sl + n) (aN M (.inr (2, n))) (pc + 2) lv (.ref (g.1 + mN M) :: rest)) : Vj x g y cc nL ret R Q k sl M pc lv (.int v :: rest) := fun C H locs ls hE hP hS hl => by
  refine va_newa (atype := .boolean) (ty := .boolean) (a0 := (n, .inl (fun _ => 0))) C.1 C.2.1 (C.2.2.2.2.1 _ hw) rfl C.2.2.2.2.2.1.1 hP (wl_D g M) hS (fun q hq => Nat.le_trans C.2.2.2.2.2.2.2.2.1 hq) (fun cA => rfl) hv hn hb hk hs d (fun q cA H1 hK1 hP1 hD1 hS1 T hT X => ?_)
  have hz : T.heap.size ≤ x.2.2.2.1.heap.size + (k + 1) := X.heapSize
  have hq := pin hP1 hD1 (by rw [hT] at hz; omega)
  subst hq
  have hc : cA = g.2.2.2.2.1 := by
    have e1 := (hK1.2 4 (cA, .boolean) rfl).2
    have e2 := (C.2.2.2.2.2.1.1.2 2 (g.2.2.2.2.1, .boolean) rfl).2
    exact Option.some.inj (e1.symm.trans e2)
  subst hc
  refine kk C H1 locs ls (by rw [mN_aN]; omega) ?_ hS1 hl T hT X
  rw [wl_push, cel_Z (mT_aN M _), mI_aN]
  exact hP1
theorem r_newaT {idx : Nat} {v : Int32} {n : Nat} (hw : Cond.classLink y.cls idx RX7 ∈ TB) (hv : ¬ v < 0) (hn : v.toNatClampNeg = n) (hb : n * 4 ≤ 536870912) (hk : k + 1 ≤ R.cells) (hs : sl + n ≤ R.slots) (d : decode cc pc = .ok (.anewarray idx, 3)) (kk : Vj x g y cc nL ret R Q (k + 1) (sl + n) (aN M (.inr (3, n))) (pc + 3) lv (.ref (g.1 + mN M) :: rest)) : Vj x g y cc nL ret R Q k sl M pc lv (.int v :: rest) := fun C H locs ls hE hP hS hl => by
  refine va_newq C.1 C.2.1 C.2.2.2.1 (C.2.2.2.2.1 _ hw) C.2.2.2.2.2.1.2.2.1 C.2.2.2.2.2.1.1 hP (wl_D g M) hS (fun q hq => Nat.le_trans C.2.2.2.2.2.2.2.2.1 hq) hv hn hb hk hs d (fun q cA H1 hK1 hP1 hD1 hS1 T hT X => ?_)
  have hz : T.heap.size ≤ x.2.2.2.1.heap.size + (k + 1) := X.heapSize
  have hq := pin hP1 hD1 (by rw [hT] at hz; omega)
  subst hq
  have hc : cA = g.2.2.2.2.2 := by
    obtain ⟨_, _, _, _, _, e1⟩ := (hK1.2 4 (cA, .object RX7) rfl).2
    obtain ⟨_, _, _, _, _, e2⟩ := (C.2.2.2.2.2.1.1.2 3 (g.2.2.2.2.2, .object RX7) rfl).2
    exact Option.some.inj (e1.symm.trans e2)
  subst hc
  refine kk C H1 locs ls (by rw [mN_aN]; omega) ?_ hS1 hl T hT X
  rw [wl_push, cel_R (mT_aN M _), mR_aN]
  exact hP1
theorem r_objInit {idx a : Nat} (h1 : Cond.methodLink y.cls idx Lib.objectInit ∈ TB) (h2 : Cond.instanceMethod Lib.objectInit ∈ TB) (h3 : Cond.code Lib.objectInit ⟨#[0xb1]⟩ 1 none ∈ TB) (hf : 1 ≤ R.frames) (hr : (rest.map fun v => v.category).sum + 12 ≤ R.locals) (d : decode cc pc = .ok (.invokespecial idx, 3)) (kk : Vj x g y cc nL ret R Q k sl M (pc + 3) lv rest) : Vj x g y cc nL ret R Q k sl M pc lv (.ref (g.1 + a) :: rest) := fun C H locs ls hE hP hS hl =>
  W.objInit C.1 C.2.1 C.2.2.2.1 (C.2.2.2.2.1 _ h1) (C.2.2.2.2.1 _ h2) (C.2.2.2.2.1 _ h3) rfl (by rw [C.2.2.1]; exact hl.1) rfl d hf (by show 2 * 0 + _ + 12 ≤ _; rw [Nat.mul_zero, Nat.zero_add]; exact hr) (kk C H locs ls hE hP hS hl)
theorem r_size (h0 : 0 < mN M) (hE : x.2.2.2.1.heap.size + k = g.1 + mN M) {D : va_G} {cl : List vw_C} {H : Heap} (hP : va_P D cl (wl g M) H) (hz : H.size ≤ x.2.2.2.1.heap.size + k) : H.size = g.1 + mN M := by
  have h1 : (wl g M)[mN M - 1]? = some (g.1 + (mN M - 1), cel g M (mN M - 1)) := wl_at (by omega)
  have h2 : g.1 + (mN M - 1) < H.size := (hP _ _ h1).lt
  omega
theorem r_run {rm : Room} {post : Option Value → Mm → Prop} {av : Array Value} {st0 : List Value} (h0 : 0 < mN M)
    (hrun : Cok x g y cc nL ret → ∀ (H : Heap) (locs : List Loc) (ls : Array Slot), H.size = g.1 + mN M → va_P g.2.1 vwCl (wl g M) H → lvOK ls nL lv → va_Run x.1 x.2.1 x.2.2.1 R x.2.2.2.1 x.2.2.2.2.1 x.2.2.2.2.2.1 x.2.2.2.2.2.2.1 x.2.2.2.2.2.2.2.1 x.2.2.2.2.2.2.2.2 H locs k sl rm.cells rm.slots (F0 x.2.2.2.2.1 pc ls st0) rest (Qc g rm.cells post av) (fun q => g.1 ≤ q))
    (kk : ∀ v M', post v M' → Vj x g y cc nL ret R Q (k + rm.cells) (sl + rm.slots) M' (pc + 3) lv (v.toList ++ rest)) : Vj x g y cc nL ret R Q k sl M pc lv st0 := by
  intro C H locs ls hE hP hS hl T hT X
  have hz : T.heap.size ≤ x.2.2.2.1.heap.size + k := X.heapSize
  rw [hT] at hz
  have hsz := r_size h0 hE hP hz
  obtain ⟨v, st₀, t, T', L, e0, X', hL, e1, e2, ⟨⟨v', M', hv, hpost, hsz', hP'⟩, hF⟩, st⟩ := hrun C H locs ls hsz hP hl T hT X
  cases hv
  rw [e0] at hsz'
  have hF1 := hF.1
  have hF2 := hF.2
  rw [e0] at hF1 hF2
  obtain ⟨t2, a1, b1⟩ := kk v M' hpost C T'.heap (locs ++ L) ls (by omega) (by rw [e1]; exact hP') ⟨Nat.le_trans hS.1 (by rw [e1]; exact hF1), fun q h1 h2 => by
      rw [e1, hF2 q (Nat.lt_of_lt_of_le h1 hS.1) h2]
      exact hS.2.1 q h1 h2, fun q hq => by
      rcases List.mem_append.mp hq with h | h
      · exact hS.2.2 q h
      · exact hL q h⟩ hl T' rfl X'
  exact ⟨t2, st t2 a1, b1⟩
def hdK (y' : MethodName) (n : Nat) : Prop := y'.cls ≠ "java/lang/invoke/MethodHandle" ∧ y'.cls ≠ "java/lang/invoke/VarHandle" ∧ (parseMethodDescriptor y'.desc).map (fun d => d.parameters.length) = some n
/-- how entry idx of own calls y' -/
def CS (own : String) (idx : Nat) (y' : MethodName) (cc' : ByteArray) (nL' : Nat) (ret' : Option FieldType) (n : Nat) : Prop := Cond.methodLink own idx y' ∈ TB ∧ Cond.static y' ∈ TB ∧ Cond.initialized y'.cls ∈ TB ∧ Cond.code y' cc' nL' ret' ∈ TB ∧ hdK y' n
def CV (own : String) (idx : Nat) (y' : MethodName) (cc' : ByteArray) (nL' : Nat) (ret' : Option FieldType) (n ci : Nat) : Prop := Cond.methodLink own idx y' ∈ TB ∧ Cond.instanceMethod y' ∈ TB ∧ Cond.selects y'.cls y' y' ∈ TB ∧ Cond.initialized y'.cls ∈ TB ∧ Cond.code y' cc' nL' ret' ∈ TB ∧ hdK y' n ∧ ∃ r : vw_C, vwCl[ci]? = some r ∧ r.1 = y'.cls
def CI (own : String) (idx : Nat) (y' : MethodName) (cc' : ByteArray) (nL' n : Nat) : Prop := Cond.methodLink own idx y' ∈ TB ∧ Cond.instanceMethod y' ∈ TB ∧ Cond.initialized y'.cls ∈ TB ∧ Cond.code y' cc' nL' none ∈ TB ∧ hdK y' n ∧ y'.name = "<init>"
def CIN (own : String) (idx : Nat) (y' : MethodName) (cc' : ByteArray) (nL' n : Nat) : Prop := Cond.instanceMethod y' ∈ TB ∧ Cond.initialized y'.cls ∈ TB ∧ Cond.code y' cc' nL' none ∈ TB ∧ hdK y' n ∧ y'.name = "<init>" ∧ ∀ (g : Gx) (U : State), Ev g U → va_Nw (.methodLinkNest own idx y' RX8) U
def CSN (own : String) (idx : Nat) (y' : MethodName) (cc' : ByteArray) (nL' : Nat) (ret' : Option FieldType) (n : Nat) : Prop := Cond.static y' ∈ TB ∧ Cond.initialized y'.cls ∈ TB ∧ Cond.code y' cc' nL' ret' ∈ TB ∧ hdK y' n ∧ ∀ (g : Gx) (U : State), Ev g U → va_Nw (.methodLinkNest own idx y' RX8) U
/-- y' is what a call of xm comes to on an object of kind ci (the owner of xm has it itself) -/
def CU (own : String) (idx : Nat) (xm y' : MethodName) (cc' : ByteArray) (nL' : Nat) (ret' : Option FieldType) (n ci : Nat) : Prop := ∃ (r : vw_C) (b0 : ByteArray) (m0 : Nat) (r0 : Option FieldType), vwCl[ci]? = some r ∧ Cond.methodLink own idx xm ∈ TB ∧ Cond.sameMethod xm.cls RX7 xm.name xm.desc ∈ TB ∧ Cond.instanceMethod ⟨RX7, xm.name, xm.desc⟩ ∈ TB ∧ Cond.selects r.1 xm y' ∈ TB ∧ Cond.instanceMethod y' ∈ TB ∧ Cond.initialized y'.cls ∈ TB ∧ Cond.code y' cc' nL' ret' ∈ TB ∧ Cond.code ⟨RX7, xm.name, xm.desc⟩ b0 m0 r0 ∈ TB ∧ (parseMethodDescriptor xm.desc).map (fun d => d.parameters.length) = some n
theorem Ct.pre {g : Gx} {M : Mm} {av : List Value} {H : Heap} {s : State} (hsz : H.size = g.1 + mN M) (hP : va_P g.2.1 vwCl (wl g M) H) (hE : Ev g s) : ∀ U : State, U.heap = H → s.WarmedH U.vm → va_Pc av (Pm g M) av.toArray U := fun U hU hW => ⟨rfl, by rw [hU]; exact hsz, by rw [hU]; exact hP, hE.warm hW⟩
theorem hdK.sig {y' : MethodName} {n : Nat} (h : hdK y' n) : y'.cls ≠ "java/lang/invoke/MethodHandle" ∧ y'.cls ≠ "java/lang/invoke/VarHandle" ∧ (parseMethodDescriptor y'.desc).map (fun d => d.parameters.length) = some n := h
variable {y' : MethodName} {cc' : ByteArray} {nL' : Nat} {ret' : Option FieldType} {rm : Room} {idx : Nat} {post : Option Value → Mm → Prop}
theorem r_runS {n : Nat} {av rest : List Value} (f : CS y.cls idx y' cc' nL' ret' n) (ct : Ct g y' cc' nL' ret' rm av M post) (hn : av.length = n) (hR : rm.frames + 1 ≤ R.frames ∧ 8 + (nL' + 11) + rm.locals ≤ R.locals) (hr : (rest.map fun v => v.category).sum ≤ 8) (hc : k + rm.cells ≤ R.cells ∧ sl + rm.slots ≤ R.slots) (h0 : 0 < mN M) (d : decode cc pc = .ok (.invokestatic idx, 3))
    (kk : ∀ v M', post v M' → Vj x g y cc nL ret R Q (k + rm.cells) (sl + rm.slots) M' (pc + 3) lv (v.toList ++ rest)) : Vj x g y cc nL ret R Q k sl M pc lv (av.reverse ++ rest) := by
  refine r_run (av := av.toArray) (st0 := av.reverse ++ rest) h0 (fun C H locs ls hsz hP hl => ?_) kk
  obtain ⟨f1, f2, f3, f4, f5⟩ := f
  exact va_runS (As := av) (rest := rest) ⟨C.1, C.2.1, C.2.2.1, C.2.2.2.1, C.2.2.2.2.1⟩ (ct x.2.1) (va_cwS n C.2.2.2.2.1 (tb_app (ws := [.methodLink y.cls idx y', .static y', .initialized y'.cls]) (by simp; exact ⟨f1, f2, f3⟩) f4) rfl rfl rfl f5 hR) ⟨Ct.blind av g M, Ct.pre hsz hP C.2.2.2.2.2.1⟩ rfl hn hl.1 rfl (lv_room hr) d hc
theorem r_runSN {n : Nat} {av rest : List Value} (f : CSN y.cls idx y' cc' nL' ret' n) (ct : Ct g y' cc' nL' ret' rm av M post) (hn : av.length = n) (hR : rm.frames + 1 ≤ R.frames ∧ 8 + (nL' + 11) + rm.locals ≤ R.locals) (hr : (rest.map fun v => v.category).sum ≤ 8) (hc : k + rm.cells ≤ R.cells ∧ sl + rm.slots ≤ R.slots) (h0 : 0 < mN M) (d : decode cc pc = .ok (.invokestatic idx, 3))
    (kk : ∀ v M', post v M' → Vj x g y cc nL ret R Q (k + rm.cells) (sl + rm.slots) M' (pc + 3) lv (v.toList ++ rest)) : Vj x g y cc nL ret R Q k sl M pc lv (av.reverse ++ rest) := by
  refine r_run (av := av.toArray) (st0 := av.reverse ++ rest) h0 (fun C H locs ls hsz hP hl => ?_) kk
  obtain ⟨f1, f2, f3, f4, f5⟩ := f
  exact va_runSN (As := av) (rest := rest) ⟨C.1, C.2.1, C.2.2.1, C.2.2.2.1, C.2.2.2.2.1⟩ (ct x.2.1) ⟨va_cnB n C.2.2.2.2.1 (tb_in f3) rfl rfl rfl (f5 g _ C.2.2.2.2.2.1) (C.2.2.2.2.1 _ f2) f4 hR, C.2.2.2.2.1 _ f1, trivial⟩ ⟨Ct.blind av g M, Ct.pre hsz hP C.2.2.2.2.2.1⟩ rfl hn hl.1 rfl (lv_room hr) d hc
theorem r_runV {n a ci : Nat} {As rest : List Value} (f : CV y.cls idx y' cc' nL' ret' n ci) (ct : Ct g y' cc' nL' ret' rm (.ref (g.1 + a) :: As) M post) (hn : As.length = n) (ha : a < mN M) (hT : mT M a = .inl ci) (hR : rm.frames + 1 ≤ R.frames ∧ 8 + (nL' + 11) + rm.locals ≤ R.locals) (hr : (rest.map fun v => v.category).sum ≤ 8) (hc : k + rm.cells ≤ R.cells ∧ sl + rm.slots ≤ R.slots) (d : decode cc pc = .ok (.invokevirtual idx, 3))
    (kk : ∀ v M', post v M' → Vj x g y cc nL ret R Q (k + rm.cells) (sl + rm.slots) M' (pc + 3) lv (v.toList ++ rest)) : Vj x g y cc nL ret R Q k sl M pc lv (As.reverse ++ .ref (g.1 + a) :: rest) := by
  refine r_run (av := (Value.ref (g.1 + a) :: As).toArray) (st0 := As.reverse ++ .ref (g.1 + a) :: rest) (Nat.lt_of_le_of_lt (Nat.zero_le _) ha) (fun C H locs ls hsz hP hl => ?_) kk
  obtain ⟨f1, f2, f3, f4, f5, f6, r, f7, f8⟩ := f
  have hrc := va_recv C.2.2.2.2.2.1.1 hP f7 (wl_obj ha hT)
  rw [f8] at hrc
  exact va_runV (C := y'.cls) (As := As) (rest := rest) ⟨C.1, C.2.1, C.2.2.1, C.2.2.2.1, C.2.2.2.2.1⟩ (ct x.2.1) (cwV n C.2.2.2.2.1 (tb_app (ws := [.methodLink y.cls idx y', .instanceMethod y', .selects y'.cls y' y', .initialized y'.cls]) (by simp; exact ⟨f1, f2, f3, f4⟩) f5) rfl rfl rfl ⟨rfl, f6⟩ hR) ⟨Ct.blind _ g M, hrc, Ct.pre hsz hP C.2.2.2.2.2.1⟩ rfl hn hl.1 rfl (lv_room hr) d hc
theorem r_runU {n a ci : Nat} {xm : MethodName} {As rest : List Value} (f : CU y.cls idx xm y' cc' nL' ret' n ci) (ct : Ct g y' cc' nL' ret' rm (.ref (g.1 + a) :: As) M post) (hn : As.length = n) (ha : a < mN M) (hT : mT M a = .inl ci) (hR : rm.frames + 1 ≤ R.frames ∧ 8 + (nL' + 11) + rm.locals ≤ R.locals) (hr : (rest.map fun v => v.category).sum ≤ 8) (hc : k + rm.cells ≤ R.cells ∧ sl + rm.slots ≤ R.slots) (d : decode cc pc = .ok (.invokevirtual idx, 3))
    (kk : ∀ v M', post v M' → Vj x g y cc nL ret R Q (k + rm.cells) (sl + rm.slots) M' (pc + 3) lv (v.toList ++ rest)) : Vj x g y cc nL ret R Q k sl M pc lv (As.reverse ++ .ref (g.1 + a) :: rest) := by
  refine r_run (av := (Value.ref (g.1 + a) :: As).toArray) (st0 := As.reverse ++ .ref (g.1 + a) :: rest) (Nat.lt_of_le_of_lt (Nat.zero_le _) ha) (fun C H locs ls hsz hP hl => ?_) kk
  obtain ⟨r, b0, m0, r0, f0, f1, f2, f3, f4, f5, f6, f7, f8, f9⟩ := f
  have hrc := va_recv C.2.2.2.2.2.1.1 hP f0 (wl_obj ha hT)
  exact va_runU (C := r.1) (As := As) (rest := rest) ⟨C.1, C.2.1, C.2.2.1, C.2.2.2.1, C.2.2.2.2.1⟩ (ct x.2.1) (va_cwO (owner := RX7) n C.2.2.2.2.1 (tb_app (ws := [.methodLink y.cls idx xm, .sameMethod xm.cls RX7 xm.name xm.desc, .instanceMethod ⟨RX7, xm.name, xm.desc⟩, .selects r.1 xm y', .instanceMethod y', .initialized y'.cls]) (by simp; exact ⟨f1, f2, f3, f4, f5, f6⟩) f7) rfl rfl rfl f8 ⟨by decide, by decide, f9⟩ hR) ⟨Ct.blind _ g M, hrc, Ct.pre hsz hP C.2.2.2.2.2.1⟩ rfl hn hl.1 rfl (lv_room hr) d hc
theorem r_runI {n a : Nat} {As rest : List Value} (f : CI y.cls idx y' cc' nL' n) (ct : Ct g y' cc' nL' none rm (.ref (g.1 + a) :: As) M post) (hn : As.length = n) (h0 : 0 < mN M) (hR : rm.frames + 1 ≤ R.frames ∧ 8 + (nL' + 11) + rm.locals ≤ R.locals) (hr : (rest.map fun v => v.category).sum ≤ 8) (hc : k + rm.cells ≤ R.cells ∧ sl + rm.slots ≤ R.slots) (d : decode cc pc = .ok (.invokespecial idx, 3))
    (kk : ∀ v M', post v M' → Vj x g y cc nL ret R Q (k + rm.cells) (sl + rm.slots) M' (pc + 3) lv (v.toList ++ rest)) : Vj x g y cc nL ret R Q k sl M pc lv (As.reverse ++ .ref (g.1 + a) :: rest) := by
  refine r_run (av := (Value.ref (g.1 + a) :: As).toArray) (st0 := As.reverse ++ .ref (g.1 + a) :: rest) h0 (fun C H locs ls hsz hP hl => ?_) kk
  obtain ⟨f1, f2, f3, f4, f5, f6⟩ := f
  exact va_runI (As := As) (rest := rest) ⟨C.1, C.2.1, C.2.2.1, C.2.2.2.1, C.2.2.2.2.1⟩ (ct x.2.1) (cwI n C.2.2.2.2.1 (tb_in f4) rfl rfl rfl (C.2.2.2.2.1 _ f3) (C.2.2.2.2.1 _ f1) (C.2.2.2.2.1 _ f2) f6 f5 hR) ⟨Ct.blind _ g M, Ct.pre hsz hP C.2.2.2.2.2.1⟩ rfl hn hl.1 rfl (lv_room hr) d hc
theorem r_runIN {n a : Nat} {As rest : List Value} (f : CIN y.cls idx y' cc' nL' n) (ct : Ct g y' cc' nL' none rm (.ref (g.1 + a) :: As) M post) (hn : As.length = n) (h0 : 0 < mN M) (hR : rm.frames + 1 ≤ R.frames ∧ 8 + (nL' + 11) + rm.locals ≤ R.locals) (hr : (rest.map fun v => v.category).sum ≤ 8) (hc : k + rm.cells ≤ R.cells ∧ sl + rm.slots ≤ R.slots) (d : decode cc pc = .ok (.invokespecial idx, 3))
    (kk : ∀ v M', post v M' → Vj x g y cc nL ret R Q (k + rm.cells) (sl + rm.slots) M' (pc + 3) lv (v.toList ++ rest)) : Vj x g y cc nL ret R Q k sl M pc lv (As.reverse ++ .ref (g.1 + a) :: rest) := by
  refine r_run (av := (Value.ref (g.1 + a) :: As).toArray) (st0 := As.reverse ++ .ref (g.1 + a) :: rest) h0 (fun C H locs ls hsz hP hl => ?_) kk
  obtain ⟨f2, f3, f4, f5, f6, f7⟩ := f
  exact va_runIN (As := As) (rest := rest) ⟨C.1, C.2.1, C.2.2.1, C.2.2.2.1, C.2.2.2.2.1⟩ (ct x.2.1) ⟨va_cnB n C.2.2.2.2.1 (tb_in f4) rfl rfl rfl (f7 g _ C.2.2.2.2.2.1) (C.2.2.2.2.1 _ f3) f5 hR, f6, C.2.2.2.2.1 _ f2⟩ ⟨Ct.blind _ g M, Ct.pre hsz hP C.2.2.2.2.2.1⟩ rfl hn hl.1 rfl (lv_room hr) d hc
theorem r_instY {a ci : Nat} {r : vw_C} {nm : String} (hcl : Cond.classLink y.cls idx nm ∈ TB) (ha : a < mN M) (hT : mT M a = .inl ci) (hc : vwCl[ci]? = some r) (hca : (r.1, nm) ∈ caP) (d : decode cc pc = .ok (.instanceof idx, 3)) (kk : Vj x g y cc nL ret R Q k sl M (pc + 3) lv (.int 1 :: rest)) : Vj x g y cc nL ret R Q k sl M pc lv (.ref (g.1 + a) :: rest) := fun C H locs ls hE hP hS hl =>
  va_instY C.1 C.2.1 C.2.2.2.1 (C.2.2.2.2.1 _ hcl) (C.2.2.2.2.2.1.2.2.2.1 _ hca) (va_recv C.2.2.2.2.2.1.1 hP hc (wl_obj ha hT)) d (kk C H locs ls hE hP hS hl)
theorem r_instS {a ci : Nat} {r : vw_C} (hcl : Cond.classLink y.cls idx r.1 ∈ TB) (ha : a < mN M) (hT : mT M a = .inl ci) (hc : vwCl[ci]? = some r) (d : decode cc pc = .ok (.instanceof idx, 3)) (kk : Vj x g y cc nL ret R Q k sl M (pc + 3) lv (.int 1 :: rest)) : Vj x g y cc nL ret R Q k sl M pc lv (.ref (g.1 + a) :: rest) := fun C H locs ls hE hP hS hl =>
  va_instS C.1 C.2.1 C.2.2.2.1 (C.2.2.2.2.1 _ hcl) (C.2.2.2.2.2.1.1.1 ci r hc).2 (va_recv C.2.2.2.2.2.1.1 hP hc (wl_obj ha hT)) d (kk C H locs ls hE hP hS hl)
theorem r_instN {a ci : Nat} {r : vw_C} {nm : String} (hcl : Cond.classLink y.cls idx nm ∈ TB) (ha : a < mN M) (hT : mT M a = .inl ci) (hc : vwCl[ci]? = some r) (hca : (r.1, nm) ∈ ncP) (d : decode cc pc = .ok (.instanceof idx, 3)) (kk : Vj x g y cc nL ret R Q k sl M (pc + 3) lv (.int 0 :: rest)) : Vj x g y cc nL ret R Q k sl M pc lv (.ref (g.1 + a) :: rest) := fun C H locs ls hE hP hS hl =>
  va_instNo C.1 C.2.1 C.2.2.2.1 (C.2.2.2.2.1 _ hcl) (C.2.2.2.2.2.1.2.2.2.2 _ hca) (va_recv C.2.2.2.2.2.1.1 hP hc (wl_obj ha hT)) d (kk C H locs ls hE hP hS hl)
theorem r_max {a b : Int32} (h1 : Cond.methodLink y.cls idx Lib.Math.max.name ∈ TB) (h2 : Cond.static Lib.Math.max.name ∈ TB) (h3 : Cond.initialized "java/lang/Math" ∈ TB) (h4 : Cond.code Lib.Math.max.name Lib.Math.max.code 2 (some .int) ∈ TB) (hf : 1 ≤ R.frames) (hr : (rest.map fun v => v.category).sum + 13 ≤ R.locals) (hc : k ≤ R.cells) (hs : sl ≤ R.slots) (d : decode cc pc = .ok (.invokestatic idx, 3)) (kk : Vj x g y cc nL ret R Q k sl M (pc + 3) lv (.int (if a < b then b else a) :: rest)) : Vj x g y cc nL ret R Q k sl M pc lv (.int b :: .int a :: rest) := fun C H locs ls hE hP hS hl =>
  va_mmax C.1 C.2.1 (C.2.2.1.trans hl.1.symm) C.2.2.2.1 (C.2.2.2.2.1 _ h1) (C.2.2.2.2.1 _ h2) (C.2.2.2.2.1 _ h3) (C.2.2.2.2.1 _ h4) hf hr hc hs d (kk C H locs ls hE hP hS hl)
/-! the same, by how many arguments, for each kind of answer -/
def pI (q : Int32 → Mm → Prop) : Option Value → Mm → Prop := fun v M' => ∃ r : Int32, v = some (.int r) ∧ q r M'
def pL (q : Int64 → Mm → Prop) : Option Value → Mm → Prop := fun v M' => ∃ r : Int64, v = some (.long r) ∧ q r M'
def pR (q : Nat → Mm → Prop) (z : Nat) : Option Value → Mm → Prop := fun v M' => ∃ r : Nat, v = some (.ref (z + r)) ∧ q r M'
def pV (q : Mm → Prop) : Option Value → Mm → Prop := fun v M' => v = none ∧ q M'

theorem r_cS0i {q : Int32 → Mm → Prop} (f : CS y.cls idx y' cc' nL' ret' 0) (ct : Ct g y' cc' nL' ret' rm [] M (pI q)) (h0 : 0 < mN M) (hR : rm.frames + 1 ≤ R.frames ∧ 8 + (nL' + 11) + rm.locals ≤ R.locals) (hr : (rest.map fun v => v.category).sum ≤ 8) (hc : k + rm.cells ≤ R.cells ∧ sl + rm.slots ≤ R.slots) (d : decode cc pc = .ok (.invokestatic idx, 3)) (kk : ∀ (r : Int32) (M' : Mm), q r M' → Vj x g y cc nL ret R Q (k + rm.cells) (sl + rm.slots) M' (pc + 3) lv (.int r :: rest)) : Vj x g y cc nL ret R Q k sl M pc lv (rest) := r_runS (av := []) f ct rfl hR hr hc h0 d (fun v M' hp => by obtain ⟨r, rfl, hq⟩ := hp; exact kk r M' hq)
theorem r_cS0l {q : Int64 → Mm → Prop} (f : CS y.cls idx y' cc' nL' ret' 0) (ct : Ct g y' cc' nL' ret' rm [] M (pL q)) (h0 : 0 < mN M) (hR : rm.frames + 1 ≤ R.frames ∧ 8 + (nL' + 11) + rm.locals ≤ R.locals) (hr : (rest.map fun v => v.category).sum ≤ 8) (hc : k + rm.cells ≤ R.cells ∧ sl + rm.slots ≤ R.slots) (d : decode cc pc = .ok (.invokestatic idx, 3)) (kk : ∀ (r : Int64) (M' : Mm), q r M' → Vj x g y cc nL ret R Q (k + rm.cells) (sl + rm.slots) M' (pc + 3) lv (.long r :: rest)) : Vj x g y cc nL ret R Q k sl M pc lv (rest) := r_runS (av := []) f ct rfl hR hr hc h0 d (fun v M' hp => by obtain ⟨r, rfl, hq⟩ := hp; exact kk r M' hq)
theorem r_cS0r {q : Nat → Mm → Prop} (f : CS y.cls idx y' cc' nL' ret' 0) (ct : Ct g y' cc' nL' ret' rm [] M (pR q g.1)) (h0 : 0 < mN M) (hR : rm.frames + 1 ≤ R.frames ∧ 8 + (nL' + 11) + rm.locals ≤ R.locals) (hr : (rest.map fun v => v.category).sum ≤ 8) (hc : k + rm.cells ≤ R.cells ∧ sl + rm.slots ≤ R.slots) (d : decode cc pc = .ok (.invokestatic idx, 3)) (kk : ∀ (r : Nat) (M' : Mm), q r M' → Vj x g y cc nL ret R Q (k + rm.cells) (sl + rm.slots) M' (pc + 3) lv (.ref (g.1 + r) :: rest)) : Vj x g y cc nL ret R Q k sl M pc lv (rest) := r_runS (av := []) f ct rfl hR hr hc h0 d (fun v M' hp => by obtain ⟨r, rfl, hq⟩ := hp; exact kk r M' hq)
theorem r_cS1i {v1 : Value} {q : Int32 → Mm → Prop} (f : CS y.cls idx y' cc' nL' ret' 1) (ct : Ct g y' cc' nL' ret' rm [v1] M (pI q)) (h0 : 0 < mN M) (hR : rm.frames + 1 ≤ R.frames ∧ 8 + (nL' + 11) + rm.locals ≤ R.locals) (hr : (rest.map fun v => v.category).sum ≤ 8) (hc : k + rm.cells ≤ R.cells ∧ sl + rm.slots ≤ R.slots) (d : decode cc pc = .ok (.invokestatic idx, 3)) (kk : ∀ (r : Int32) (M' : Mm), q r M' → Vj x g y cc nL ret R Q (k + rm.cells) (sl + rm.slots) M' (pc + 3) lv (.int r :: rest)) : Vj x g y cc nL ret R Q k sl M pc lv (v1 :: rest) := r_runS (av := [v1]) f ct rfl hR hr hc h0 d (fun v M' hp => by obtain ⟨r, rfl, hq⟩ := hp; exact kk r M' hq)
theorem r_cS1l {v1 : Value} {q : Int64 → Mm → Prop} (f : CS y.cls idx y' cc' nL' ret' 1) (ct : Ct g y' cc' nL' ret' rm [v1] M (pL q)) (h0 : 0 < mN M) (hR : rm.frames + 1 ≤ R.frames ∧ 8 + (nL' + 11) + rm.locals ≤ R.locals) (hr : (rest.map fun v => v.category).sum ≤ 8) (hc : k + rm.cells ≤ R.cells ∧ sl + rm.slots ≤ R.slots) (d : decode cc pc = .ok (.invokestatic idx, 3)) (kk : ∀ (r : Int64) (M' : Mm), q r M' → Vj x g y cc nL ret R Q (k + rm.cells) (sl + rm.slots) M' (pc + 3) lv (.long r :: rest)) : Vj x g y cc nL ret R Q k sl M pc lv (v1 :: rest) := r_runS (av := [v1]) f ct rfl hR hr hc h0 d (fun v M' hp => by obtain ⟨r, rfl, hq⟩ := hp; exact kk r M' hq)
theorem r_cS1r {v1 : Value} {q : Nat → Mm → Prop} (f : CS y.cls idx y' cc' nL' ret' 1) (ct : Ct g y' cc' nL' ret' rm [v1] M (pR q g.1)) (h0 : 0 < mN M) (hR : rm.frames + 1 ≤ R.frames ∧ 8 + (nL' + 11) + rm.locals ≤ R.locals) (hr : (rest.map fun v => v.category).sum ≤ 8) (hc : k + rm.cells ≤ R.cells ∧ sl + rm.slots ≤ R.slots) (d : decode cc pc = .ok (.invokestatic idx, 3)) (kk : ∀ (r : Nat) (M' : Mm), q r M' → Vj x g y cc nL ret R Q (k + rm.cells) (sl + rm.slots) M' (pc + 3) lv (.ref (g.1 + r) :: rest)) : Vj x g y cc nL ret R Q k sl M pc lv (v1 :: rest) := r_runS (av := [v1]) f ct rfl hR hr hc h0 d (fun v M' hp => by obtain ⟨r, rfl, hq⟩ := hp; exact kk r M' hq)
theorem r_cS2i {v1 v2 : Value} {q : Int32 → Mm → Prop} (f : CS y.cls idx y' cc' nL' ret' 2) (ct : Ct g y' cc' nL' ret' rm [v1, v2] M (pI q)) (h0 : 0 < mN M) (hR : rm.frames + 1 ≤ R.frames ∧ 8 + (nL' + 11) + rm.locals ≤ R.locals) (hr : (rest.map fun v => v.category).sum ≤ 8) (hc : k + rm.cells ≤ R.cells ∧ sl + rm.slots ≤ R.slots) (d : decode cc pc = .ok (.invokestatic idx, 3)) (kk : ∀ (r : Int32) (M' : Mm), q r M' → Vj x g y cc nL ret R Q (k + rm.cells) (sl + rm.slots) M' (pc + 3) lv (.int r :: rest)) : Vj x g y cc nL ret R Q k sl M pc lv (v2 :: v1 :: rest) := r_runS (av := [v1, v2]) f ct rfl hR hr hc h0 d (fun v M' hp => by obtain ⟨r, rfl, hq⟩ := hp; exact kk r M' hq)
theorem r_cS2l {v1 v2 : Value} {q : Int64 → Mm → Prop} (f : CS y.cls idx y' cc' nL' ret' 2) (ct : Ct g y' cc' nL' ret' rm [v1, v2] M (pL q)) (h0 : 0 < mN M) (hR : rm.frames + 1 ≤ R.frames ∧ 8 + (nL' + 11) + rm.locals ≤ R.locals) (hr : (rest.map fun v => v.category).sum ≤ 8) (hc : k + rm.cells ≤ R.cells ∧ sl + rm.slots ≤ R.slots) (d : decode cc pc = .ok (.invokestatic idx, 3)) (kk : ∀ (r : Int64) (M' : Mm), q r M' → Vj x g y cc nL ret R Q (k + rm.cells) (sl + rm.slots) M' (pc + 3) lv (.long r :: rest)) : Vj x g y cc nL ret R Q k sl M pc lv (v2 :: v1 :: rest) := r_runS (av := [v1, v2]) f ct rfl hR hr hc h0 d (fun v M' hp => by obtain ⟨r, rfl, hq⟩ := hp; exact kk r M' hq)
theorem r_cS2r {v1 v2 : Value} {q : Nat → Mm → Prop} (f : CS y.cls idx y' cc' nL' ret' 2) (ct : Ct g y' cc' nL' ret' rm [v1, v2] M (pR q g.1)) (h0 : 0 < mN M) (hR : rm.frames + 1 ≤ R.frames ∧ 8 + (nL' + 11) + rm.locals ≤ R.locals) (hr : (rest.map fun v => v.category).sum ≤ 8) (hc : k + rm.cells ≤ R.cells ∧ sl + rm.slots ≤ R.slots) (d : decode cc pc = .ok (.invokestatic idx, 3)) (kk : ∀ (r : Nat) (M' : Mm), q r M' → Vj x g y cc nL ret R Q (k + rm.cells) (sl + rm.slots) M' (pc + 3) lv (.ref (g.1 + r) :: rest)) : Vj x g y cc nL ret R Q k sl M pc lv (v2 :: v1 :: rest) := r_runS (av := [v1, v2]) f ct rfl hR hr hc h0 d (fun v M' hp => by obtain ⟨r, rfl, hq⟩ := hp; exact kk r M' hq)
theorem r_cS3i {v1 v2 v3 : Value} {q : Int32 → Mm → Prop} (f : CS y.cls idx y' cc' nL' ret' 3) (ct : Ct g y' cc' nL' ret' rm [v1, v2, v3] M (pI q)) (h0 : 0 < mN M) (hR : rm.frames + 1 ≤ R.frames ∧ 8 + (nL' + 11) + rm.locals ≤ R.locals) (hr : (rest.map fun v => v.category).sum ≤ 8) (hc : k + rm.cells ≤ R.cells ∧ sl + rm.slots ≤ R.slots) (d : decode cc pc = .ok (.invokestatic idx, 3)) (kk : ∀ (r : Int32) (M' : Mm), q r M' → Vj x g y cc nL ret R Q (k + rm.cells) (sl + rm.slots) M' (pc + 3) lv (.int r :: rest)) : Vj x g y cc nL ret R Q k sl M pc lv (v3 :: v2 :: v1 :: rest) := r_runS (av := [v1, v2, v3]) f ct rfl hR hr hc h0 d (fun v M' hp => by obtain ⟨r, rfl, hq⟩ := hp; exact kk r M' hq)
theorem r_cS3l {v1 v2 v3 : Value} {q : Int64 → Mm → Prop} (f : CS y.cls idx y' cc' nL' ret' 3) (ct : Ct g y' cc' nL' ret' rm [v1, v2, v3] M (pL q)) (h0 : 0 < mN M) (hR : rm.frames + 1 ≤ R.frames ∧ 8 + (nL' + 11) + rm.locals ≤ R.locals) (hr : (rest.map fun v => v.category).sum ≤ 8) (hc : k + rm.cells ≤ R.cells ∧ sl + rm.slots ≤ R.slots) (d : decode cc pc = .ok (.invokestatic idx, 3)) (kk : ∀ (r : Int64) (M' : Mm), q r M' → Vj x g y cc nL ret R Q (k + rm.cells) (sl + rm.slots) M' (pc + 3) lv (.long r :: rest)) : Vj x g y cc nL ret R Q k sl M pc lv (v3 :: v2 :: v1 :: rest) := r_runS (av := [v1, v2, v3]) f ct rfl hR hr hc h0 d (fun v M' hp => by obtain ⟨r, rfl, hq⟩ := hp; exact kk r M' hq)
theorem r_cS3r {v1 v2 v3 : Value} {q : Nat → Mm → Prop} (f : CS y.cls idx y' cc' nL' ret' 3) (ct : Ct g y' cc' nL' ret' rm [v1, v2, v3] M (pR q g.1)) (h0 : 0 < mN M) (hR : rm.frames + 1 ≤ R.frames ∧ 8 + (nL' + 11) + rm.locals ≤ R.locals) (hr : (rest.map fun v => v.category).sum ≤ 8) (hc : k + rm.cells ≤ R.cells ∧ sl + rm.slots ≤ R.slots) (d : decode cc pc = .ok (.invokestatic idx, 3)) (kk : ∀ (r : Nat) (M' : Mm), q r M' → Vj x g y cc nL ret R Q (k + rm.cells) (sl + rm.slots) M' (pc + 3) lv (.ref (g.1 + r) :: rest)) : Vj x g y cc nL ret R Q k sl M pc lv (v3 :: v2 :: v1 :: rest) := r_runS (av := [v1, v2, v3]) f ct rfl hR hr hc h0 d (fun v M' hp => by obtain ⟨r, rfl, hq⟩ := hp; exact kk r M' hq)
theorem r_cS4i {v1 v2 v3 v4 : Value} {q : Int32 → Mm → Prop} (f : CS y.cls idx y' cc' nL' ret' 4) (ct : Ct g y' cc' nL' ret' rm [v1, v2, v3, v4] M (pI q)) (h0 : 0 < mN M) (hR : rm.frames + 1 ≤ R.frames ∧ 8 + (nL' + 11) + rm.locals ≤ R.locals) (hr : (rest.map fun v => v.category).sum ≤ 8) (hc : k + rm.cells ≤ R.cells ∧ sl + rm.slots ≤ R.slots) (d : decode cc pc = .ok (.invokestatic idx, 3)) (kk : ∀ (r : Int32) (M' : Mm), q r M' → Vj x g y cc nL ret R Q (k + rm.cells) (sl + rm.slots) M' (pc + 3) lv (.int r :: rest)) : Vj x g y cc nL ret R Q k sl M pc lv (v4 :: v3 :: v2 :: v1 :: rest) := r_runS (av := [v1, v2, v3, v4]) f ct rfl hR hr hc h0 d (fun v M' hp => by obtain ⟨r, rfl, hq⟩ := hp; exact kk r M' hq)
theorem r_cS4l {v1 v2 v3 v4 : Value} {q : Int64 → Mm → Prop} (f : CS y.cls idx y' cc' nL' ret' 4) (ct : Ct g y' cc' nL' ret' rm [v1, v2, v3, v4] M (pL q)) (h0 : 0 < mN M) (hR : rm.frames + 1 ≤ R.frames ∧ 8 + (nL' + 11) + rm.locals ≤ R.locals) (hr : (rest.map fun v => v.category).sum ≤ 8) (hc : k + rm.cells ≤ R.cells ∧ sl + rm.slots ≤ R.slots) (d : decode cc pc = .ok (.invokestatic idx, 3)) (kk : ∀ (r : Int64) (M' : Mm), q r M' → Vj x g y cc nL ret R Q (k + rm.cells) (sl + rm.slots) M' (pc + 3) lv (.long r :: rest)) : Vj x g y cc nL ret R Q k sl M pc lv (v4 :: v3 :: v2 :: v1 :: rest) := r_runS (av := [v1, v2, v3, v4]) f ct rfl hR hr hc h0 d (fun v M' hp => by obtain ⟨r, rfl, hq⟩ := hp; exact kk r M' hq)
theorem r_cS4r {v1 v2 v3 v4 : Value} {q : Nat → Mm → Prop} (f : CS y.cls idx y' cc' nL' ret' 4) (ct : Ct g y' cc' nL' ret' rm [v1, v2, v3, v4] M (pR q g.1)) (h0 : 0 < mN M) (hR : rm.frames + 1 ≤ R.frames ∧ 8 + (nL' + 11) + rm.locals ≤ R.locals) (hr : (rest.map fun v => v.category).sum ≤ 8) (hc : k + rm.cells ≤ R.cells ∧ sl + rm.slots ≤ R.slots) (d : decode cc pc = .ok (.invokestatic idx, 3)) (kk : ∀ (r : Nat) (M' : Mm), q r M' → Vj x g y cc nL ret R Q (k + rm.cells) (sl + rm.slots) M' (pc + 3) lv (.ref (g.1 + r) :: rest)) : Vj x g y cc nL ret R Q k sl M pc lv (v4 :: v3 :: v2 :: v1 :: rest) := r_runS (av := [v1, v2, v3, v4]) f ct rfl hR hr hc h0 d (fun v M' hp => by obtain ⟨r, rfl, hq⟩ := hp; exact kk r M' hq)
theorem r_cSN1i {v1 : Value} {q : Int32 → Mm → Prop} (f : CSN y.cls idx y' cc' nL' ret' 1) (ct : Ct g y' cc' nL' ret' rm [v1] M (pI q)) (h0 : 0 < mN M) (hR : rm.frames + 1 ≤ R.frames ∧ 8 + (nL' + 11) + rm.locals ≤ R.locals) (hr : (rest.map fun v => v.category).sum ≤ 8) (hc : k + rm.cells ≤ R.cells ∧ sl + rm.slots ≤ R.slots) (d : decode cc pc = .ok (.invokestatic idx, 3)) (kk : ∀ (r : Int32) (M' : Mm), q r M' → Vj x g y cc nL ret R Q (k + rm.cells) (sl + rm.slots) M' (pc + 3) lv (.int r :: rest)) : Vj x g y cc nL ret R Q k sl M pc lv (v1 :: rest) := r_runSN (av := [v1]) f ct rfl hR hr hc h0 d (fun v M' hp => by obtain ⟨r, rfl, hq⟩ := hp; exact kk r M' hq)
theorem r_cV0i {a ci : Nat} {q : Int32 → Mm → Prop} (f : CV y.cls idx y' cc' nL' ret' 0 ci) (ct : Ct g y' cc' nL' ret' rm [.ref (g.1 + a)] M (pI q)) (ha : a < mN M) (hT : mT M a = .inl ci) (hR : rm.frames + 1 ≤ R.frames ∧ 8 + (nL' + 11) + rm.locals ≤ R.locals) (hr : (rest.map fun v => v.category).sum ≤ 8) (hc : k + rm.cells ≤ R.cells ∧ sl + rm.slots ≤ R.slots) (d : decode cc pc = .ok (.invokevirtual idx, 3)) (kk : ∀ (r : Int32) (M' : Mm), q r M' → Vj x g y cc nL ret R Q (k + rm.cells) (sl + rm.slots) M' (pc + 3) lv (.int r :: rest)) : Vj x g y cc nL ret R Q k sl M pc lv (.ref (g.1 + a) :: rest) := r_runV (As := []) f ct rfl ha hT hR hr hc d (fun v M' hp => by obtain ⟨r, rfl, hq⟩ := hp; exact kk r M' hq)
theorem r_cV0l {a ci : Nat} {q : Int64 → Mm → Prop} (f : CV y.cls idx y' cc' nL' ret' 0 ci) (ct : Ct g y' cc' nL' ret' rm [.ref (g.1 + a)] M (pL q)) (ha : a < mN M) (hT : mT M a = .inl ci) (hR : rm.frames + 1 ≤ R.frames ∧ 8 + (nL' + 11) + rm.locals ≤ R.locals) (hr : (rest.map fun v => v.category).sum ≤ 8) (hc : k + rm.cells ≤ R.cells ∧ sl + rm.slots ≤ R.slots) (d : decode cc pc = .ok (.invokevirtual idx, 3)) (kk : ∀ (r : Int64) (M' : Mm), q r M' → Vj x g y cc nL ret R Q (k + rm.cells) (sl + rm.slots) M' (pc + 3) lv (.long r :: rest)) : Vj x g y cc nL ret R Q k sl M pc lv (.ref (g.1 + a) :: rest) := r_runV (As := []) f ct rfl ha hT hR hr hc d (fun v M' hp => by obtain ⟨r, rfl, hq⟩ := hp; exact kk r M' hq)
theorem r_cV0v {a ci : Nat} {q : Mm → Prop} (f : CV y.cls idx y' cc' nL' ret' 0 ci) (ct : Ct g y' cc' nL' ret' rm [.ref (g.1 + a)] M (pV q)) (ha : a < mN M) (hT : mT M a = .inl ci) (hR : rm.frames + 1 ≤ R.frames ∧ 8 + (nL' + 11) + rm.locals ≤ R.locals) (hr : (rest.map fun v => v.category).sum ≤ 8) (hc : k + rm.cells ≤ R.cells ∧ sl + rm.slots ≤ R.slots) (d : decode cc pc = .ok (.invokevirtual idx, 3)) (kk : ∀ M' : Mm, q M' → Vj x g y cc nL ret R Q (k + rm.cells) (sl + rm.slots) M' (pc + 3) lv (rest)) : Vj x g y cc nL ret R Q k sl M pc lv (.ref (g.1 + a) :: rest) := r_runV (As := []) f ct rfl ha hT hR hr hc d (fun v M' hp => by obtain ⟨rfl, hq⟩ := hp; exact kk M' hq)
theorem r_cV1i {a ci : Nat} {v1 : Value} {q : Int32 → Mm → Prop} (f : CV y.cls idx y' cc' nL' ret' 1 ci) (ct : Ct g y' cc' nL' ret' rm [.ref (g.1 + a), v1] M (pI q)) (ha : a < mN M) (hT : mT M a = .inl ci) (hR : rm.frames + 1 ≤ R.frames ∧ 8 + (nL' + 11) + rm.locals ≤ R.locals) (hr : (rest.map fun v => v.category).sum ≤ 8) (hc : k + rm.cells ≤ R.cells ∧ sl + rm.slots ≤ R.slots) (d : decode cc pc = .ok (.invokevirtual idx, 3)) (kk : ∀ (r : Int32) (M' : Mm), q r M' → Vj x g y cc nL ret R Q (k + rm.cells) (sl + rm.slots) M' (pc + 3) lv (.int r :: rest)) : Vj x g y cc nL ret R Q k sl M pc lv (v1 :: .ref (g.1 + a) :: rest) := r_runV (As := [v1]) f ct rfl ha hT hR hr hc d (fun v M' hp => by obtain ⟨r, rfl, hq⟩ := hp; exact kk r M' hq)
theorem r_cV1l {a ci : Nat} {v1 : Value} {q : Int64 → Mm → Prop} (f : CV y.cls idx y' cc' nL' ret' 1 ci) (ct : Ct g y' cc' nL' ret' rm [.ref (g.1 + a), v1] M (pL q)) (ha : a < mN M) (hT : mT M a = .inl ci) (hR : rm.frames + 1 ≤ R.frames ∧ 8 + (nL' + 11) + rm.locals ≤ R.locals) (hr : (rest.map fun v => v.category).sum ≤ 8) (hc : k + rm.cells ≤ R.cells ∧ sl + rm.slots ≤ R.slots) (d : decode cc pc = .ok (.invokevirtual idx, 3)) (kk : ∀ (r : Int64) (M' : Mm), q r M' → Vj x g y cc nL ret R Q (k + rm.cells) (sl + rm.slots) M' (pc + 3) lv (.long r :: rest)) : Vj x g y cc nL ret R Q k sl M pc lv (v1 :: .ref (g.1 + a) :: rest) := r_runV (As := [v1]) f ct rfl ha hT hR hr hc d (fun v M' hp => by obtain ⟨r, rfl, hq⟩ := hp; exact kk r M' hq)
theorem r_cV1v {a ci : Nat} {v1 : Value} {q : Mm → Prop} (f : CV y.cls idx y' cc' nL' ret' 1 ci) (ct : Ct g y' cc' nL' ret' rm [.ref (g.1 + a), v1] M (pV q)) (ha : a < mN M) (hT : mT M a = .inl ci) (hR : rm.frames + 1 ≤ R.frames ∧ 8 + (nL' + 11) + rm.locals ≤ R.locals) (hr : (rest.map fun v => v.category).sum ≤ 8) (hc : k + rm.cells ≤ R.cells ∧ sl + rm.slots ≤ R.slots) (d : decode cc pc = .ok (.invokevirtual idx, 3)) (kk : ∀ M' : Mm, q M' → Vj x g y cc nL ret R Q (k + rm.cells) (sl + rm.slots) M' (pc + 3) lv (rest)) : Vj x g y cc nL ret R Q k sl M pc lv (v1 :: .ref (g.1 + a) :: rest) := r_runV (As := [v1]) f ct rfl ha hT hR hr hc d (fun v M' hp => by obtain ⟨rfl, hq⟩ := hp; exact kk M' hq)
theorem r_cV2i {a ci : Nat} {v1 v2 : Value} {q : Int32 → Mm → Prop} (f : CV y.cls idx y' cc' nL' ret' 2 ci) (ct : Ct g y' cc' nL' ret' rm [.ref (g.1 + a), v1, v2] M (pI q)) (ha : a < mN M) (hT : mT M a = .inl ci) (hR : rm.frames + 1 ≤ R.frames ∧ 8 + (nL' + 11) + rm.locals ≤ R.locals) (hr : (rest.map fun v => v.category).sum ≤ 8) (hc : k + rm.cells ≤ R.cells ∧ sl + rm.slots ≤ R.slots) (d : decode cc pc = .ok (.invokevirtual idx, 3)) (kk : ∀ (r : Int32) (M' : Mm), q r M' → Vj x g y cc nL ret R Q (k + rm.cells) (sl + rm.slots) M' (pc + 3) lv (.int r :: rest)) : Vj x g y cc nL ret R Q k sl M pc lv (v2 :: v1 :: .ref (g.1 + a) :: rest) := r_runV (As := [v1, v2]) f ct rfl ha hT hR hr hc d (fun v M' hp => by obtain ⟨r, rfl, hq⟩ := hp; exact kk r M' hq)
theorem r_cV2l {a ci : Nat} {v1 v2 : Value} {q : Int64 → Mm → Prop} (f : CV y.cls idx y' cc' nL' ret' 2 ci) (ct : Ct g y' cc' nL' ret' rm [.ref (g.1 + a), v1, v2] M (pL q)) (ha : a < mN M) (hT : mT M a = .inl ci) (hR : rm.frames + 1 ≤ R.frames ∧ 8 + (nL' + 11) + rm.locals ≤ R.locals) (hr : (rest.map fun v => v.category).sum ≤ 8) (hc : k + rm.cells ≤ R.cells ∧ sl + rm.slots ≤ R.slots) (d : decode cc pc = .ok (.invokevirtual idx, 3)) (kk : ∀ (r : Int64) (M' : Mm), q r M' → Vj x g y cc nL ret R Q (k + rm.cells) (sl + rm.slots) M' (pc + 3) lv (.long r :: rest)) : Vj x g y cc nL ret R Q k sl M pc lv (v2 :: v1 :: .ref (g.1 + a) :: rest) := r_runV (As := [v1, v2]) f ct rfl ha hT hR hr hc d (fun v M' hp => by obtain ⟨r, rfl, hq⟩ := hp; exact kk r M' hq)
theorem r_cV2v {a ci : Nat} {v1 v2 : Value} {q : Mm → Prop} (f : CV y.cls idx y' cc' nL' ret' 2 ci) (ct : Ct g y' cc' nL' ret' rm [.ref (g.1 + a), v1, v2] M (pV q)) (ha : a < mN M) (hT : mT M a = .inl ci) (hR : rm.frames + 1 ≤ R.frames ∧ 8 + (nL' + 11) + rm.locals ≤ R.locals) (hr : (rest.map fun v => v.category).sum ≤ 8) (hc : k + rm.cells ≤ R.cells ∧ sl + rm.slots ≤ R.slots) (d : decode cc pc = .ok (.invokevirtual idx, 3)) (kk : ∀ M' : Mm, q M' → Vj x g y cc nL ret R Q (k + rm.cells) (sl + rm.slots) M' (pc + 3) lv (rest)) : Vj x g y cc nL ret R Q k sl M pc lv (v2 :: v1 :: .ref (g.1 + a) :: rest) := r_runV (As := [v1, v2]) f ct rfl ha hT hR hr hc d (fun v M' hp => by obtain ⟨rfl, hq⟩ := hp; exact kk M' hq)
theorem r_cV3i {a ci : Nat} {v1 v2 v3 : Value} {q : Int32 → Mm → Prop} (f : CV y.cls idx y' cc' nL' ret' 3 ci) (ct : Ct g y' cc' nL' ret' rm [.ref (g.1 + a), v1, v2, v3] M (pI q)) (ha : a < mN M) (hT : mT M a = .inl ci) (hR : rm.frames + 1 ≤ R.frames ∧ 8 + (nL' + 11) + rm.locals ≤ R.locals) (hr : (rest.map fun v => v.category).sum ≤ 8) (hc : k + rm.cells ≤ R.cells ∧ sl + rm.slots ≤ R.slots) (d : decode cc pc = .ok (.invokevirtual idx, 3)) (kk : ∀ (r : Int32) (M' : Mm), q r M' → Vj x g y cc nL ret R Q (k + rm.cells) (sl + rm.slots) M' (pc + 3) lv (.int r :: rest)) : Vj x g y cc nL ret R Q k sl M pc lv (v3 :: v2 :: v1 :: .ref (g.1 + a) :: rest) := r_runV (As := [v1, v2, v3]) f ct rfl ha hT hR hr hc d (fun v M' hp => by obtain ⟨r, rfl, hq⟩ := hp; exact kk r M' hq)
theorem r_cV3l {a ci : Nat} {v1 v2 v3 : Value} {q : Int64 → Mm → Prop} (f : CV y.cls idx y' cc' nL' ret' 3 ci) (ct : Ct g y' cc' nL' ret' rm [.ref (g.1 + a), v1, v2, v3] M (pL q)) (ha : a < mN M) (hT : mT M a = .inl ci) (hR : rm.frames + 1 ≤ R.frames ∧ 8 + (nL' + 11) + rm.locals ≤ R.locals) (hr : (rest.map fun v => v.category).sum ≤ 8) (hc : k + rm.cells ≤ R.cells ∧ sl + rm.slots ≤ R.slots) (d : decode cc pc = .ok (.invokevirtual idx, 3)) (kk : ∀ (r : Int64) (M' : Mm), q r M' → Vj x g y cc nL ret R Q (k + rm.cells) (sl + rm.slots) M' (pc + 3) lv (.long r :: rest)) : Vj x g y cc nL ret R Q k sl M pc lv (v3 :: v2 :: v1 :: .ref (g.1 + a) :: rest) := r_runV (As := [v1, v2, v3]) f ct rfl ha hT hR hr hc d (fun v M' hp => by obtain ⟨r, rfl, hq⟩ := hp; exact kk r M' hq)
theorem r_cV3v {a ci : Nat} {v1 v2 v3 : Value} {q : Mm → Prop} (f : CV y.cls idx y' cc' nL' ret' 3 ci) (ct : Ct g y' cc' nL' ret' rm [.ref (g.1 + a), v1, v2, v3] M (pV q)) (ha : a < mN M) (hT : mT M a = .inl ci) (hR : rm.frames + 1 ≤ R.frames ∧ 8 + (nL' + 11) + rm.locals ≤ R.locals) (hr : (rest.map fun v => v.category).sum ≤ 8) (hc : k + rm.cells ≤ R.cells ∧ sl + rm.slots ≤ R.slots) (d : decode cc pc = .ok (.invokevirtual idx, 3)) (kk : ∀ M' : Mm, q M' → Vj x g y cc nL ret R Q (k + rm.cells) (sl + rm.slots) M' (pc + 3) lv (rest)) : Vj x g y cc nL ret R Q k sl M pc lv (v3 :: v2 :: v1 :: .ref (g.1 + a) :: rest) := r_runV (As := [v1, v2, v3]) f ct rfl ha hT hR hr hc d (fun v M' hp => by obtain ⟨rfl, hq⟩ := hp; exact kk M' hq)
theorem r_cV4i {a ci : Nat} {v1 v2 v3 v4 : Value} {q : Int32 → Mm → Prop} (f : CV y.cls idx y' cc' nL' ret' 4 ci) (ct : Ct g y' cc' nL' ret' rm [.ref (g.1 + a), v1, v2, v3, v4] M (pI q)) (ha : a < mN M) (hT : mT M a = .inl ci) (hR : rm.frames + 1 ≤ R.frames ∧ 8 + (nL' + 11) + rm.locals ≤ R.locals) (hr : (rest.map fun v => v.category).sum ≤ 8) (hc : k + rm.cells ≤ R.cells ∧ sl + rm.slots ≤ R.slots) (d : decode cc pc = .ok (.invokevirtual idx, 3)) (kk : ∀ (r : Int32) (M' : Mm), q r M' → Vj x g y cc nL ret R Q (k + rm.cells) (sl + rm.slots) M' (pc + 3) lv (.int r :: rest)) : Vj x g y cc nL ret R Q k sl M pc lv (v4 :: v3 :: v2 :: v1 :: .ref (g.1 + a) :: rest) := r_runV (As := [v1, v2, v3, v4]) f ct rfl ha hT hR hr hc d (fun v M' hp => by obtain ⟨r, rfl, hq⟩ := hp; exact kk r M' hq)
theorem r_cV4l {a ci : Nat} {v1 v2 v3 v4 : Value} {q : Int64 → Mm → Prop} (f : CV y.cls idx y' cc' nL' ret' 4 ci) (ct : Ct g y' cc' nL' ret' rm [.ref (g.1 + a), v1, v2, v3, v4] M (pL q)) (ha : a < mN M) (hT : mT M a = .inl ci) (hR : rm.frames + 1 ≤ R.frames ∧ 8 + (nL' + 11) + rm.locals ≤ R.locals) (hr : (rest.map fun v => v.category).sum ≤ 8) (hc : k + rm.cells ≤ R.cells ∧ sl + rm.slots ≤ R.slots) (d : decode cc pc = .ok (.invokevirtual idx, 3)) (kk : ∀ (r : Int64) (M' : Mm), q r M' → Vj x g y cc nL ret R Q (k + rm.cells) (sl + rm.slots) M' (pc + 3) lv (.long r :: rest)) : Vj x g y cc nL ret R Q k sl M pc lv (v4 :: v3 :: v2 :: v1 :: .ref (g.1 + a) :: rest) := r_runV (As := [v1, v2, v3, v4]) f ct rfl ha hT hR hr hc d (fun v M' hp => by obtain ⟨r, rfl, hq⟩ := hp; exact kk r M' hq)
theorem r_cV4v {a ci : Nat} {v1 v2 v3 v4 : Value} {q : Mm → Prop} (f : CV y.cls idx y' cc' nL' ret' 4 ci) (ct : Ct g y' cc' nL' ret' rm [.ref (g.1 + a), v1, v2, v3, v4] M (pV q)) (ha : a < mN M) (hT : mT M a = .inl ci) (hR : rm.frames + 1 ≤ R.frames ∧ 8 + (nL' + 11) + rm.locals ≤ R.locals) (hr : (rest.map fun v => v.category).sum ≤ 8) (hc : k + rm.cells ≤ R.cells ∧ sl + rm.slots ≤ R.slots) (d : decode cc pc = .ok (.invokevirtual idx, 3)) (kk : ∀ M' : Mm, q M' → Vj x g y cc nL ret R Q (k + rm.cells) (sl + rm.slots) M' (pc + 3) lv (rest)) : Vj x g y cc nL ret R Q k sl M pc lv (v4 :: v3 :: v2 :: v1 :: .ref (g.1 + a) :: rest) := r_runV (As := [v1, v2, v3, v4]) f ct rfl ha hT hR hr hc d (fun v M' hp => by obtain ⟨rfl, hq⟩ := hp; exact kk M' hq)
theorem r_cU0i {a ci : Nat} {xm : MethodName} {q : Int32 → Mm → Prop} (f : CU y.cls idx xm y' cc' nL' ret' 0 ci) (ct : Ct g y' cc' nL' ret' rm [.ref (g.1 + a)] M (pI q)) (ha : a < mN M) (hT : mT M a = .inl ci) (hR : rm.frames + 1 ≤ R.frames ∧ 8 + (nL' + 11) + rm.locals ≤ R.locals) (hr : (rest.map fun v => v.category).sum ≤ 8) (hc : k + rm.cells ≤ R.cells ∧ sl + rm.slots ≤ R.slots) (d : decode cc pc = .ok (.invokevirtual idx, 3)) (kk : ∀ (r : Int32) (M' : Mm), q r M' → Vj x g y cc nL ret R Q (k + rm.cells) (sl + rm.slots) M' (pc + 3) lv (.int r :: rest)) : Vj x g y cc nL ret R Q k sl M pc lv (.ref (g.1 + a) :: rest) := r_runU (As := []) f ct rfl ha hT hR hr hc d (fun v M' hp => by obtain ⟨r, rfl, hq⟩ := hp; exact kk r M' hq)
theorem r_cU1i {a ci : Nat} {xm : MethodName} {v1 : Value} {q : Int32 → Mm → Prop} (f : CU y.cls idx xm y' cc' nL' ret' 1 ci) (ct : Ct g y' cc' nL' ret' rm [.ref (g.1 + a), v1] M (pI q)) (ha : a < mN M) (hT : mT M a = .inl ci) (hR : rm.frames + 1 ≤ R.frames ∧ 8 + (nL' + 11) + rm.locals ≤ R.locals) (hr : (rest.map fun v => v.category).sum ≤ 8) (hc : k + rm.cells ≤ R.cells ∧ sl + rm.slots ≤ R.slots) (d : decode cc pc = .ok (.invokevirtual idx, 3)) (kk : ∀ (r : Int32) (M' : Mm), q r M' → Vj x g y cc nL ret R Q (k + rm.cells) (sl + rm.slots) M' (pc + 3) lv (.int r :: rest)) : Vj x g y cc nL ret R Q k sl M pc lv (v1 :: .ref (g.1 + a) :: rest) := r_runU (As := [v1]) f ct rfl ha hT hR hr hc d (fun v M' hp => by obtain ⟨r, rfl, hq⟩ := hp; exact kk r M' hq)
theorem r_cU2i {a ci : Nat} {xm : MethodName} {v1 v2 : Value} {q : Int32 → Mm → Prop} (f : CU y.cls idx xm y' cc' nL' ret' 2 ci) (ct : Ct g y' cc' nL' ret' rm [.ref (g.1 + a), v1, v2] M (pI q)) (ha : a < mN M) (hT : mT M a = .inl ci) (hR : rm.frames + 1 ≤ R.frames ∧ 8 + (nL' + 11) + rm.locals ≤ R.locals) (hr : (rest.map fun v => v.category).sum ≤ 8) (hc : k + rm.cells ≤ R.cells ∧ sl + rm.slots ≤ R.slots) (d : decode cc pc = .ok (.invokevirtual idx, 3)) (kk : ∀ (r : Int32) (M' : Mm), q r M' → Vj x g y cc nL ret R Q (k + rm.cells) (sl + rm.slots) M' (pc + 3) lv (.int r :: rest)) : Vj x g y cc nL ret R Q k sl M pc lv (v2 :: v1 :: .ref (g.1 + a) :: rest) := r_runU (As := [v1, v2]) f ct rfl ha hT hR hr hc d (fun v M' hp => by obtain ⟨r, rfl, hq⟩ := hp; exact kk r M' hq)
theorem r_cI0v {a : Nat} {q : Mm → Prop} (f : CI y.cls idx y' cc' nL' 0) (ct : Ct g y' cc' nL' none rm [.ref (g.1 + a)] M (pV q)) (h0 : 0 < mN M) (hR : rm.frames + 1 ≤ R.frames ∧ 8 + (nL' + 11) + rm.locals ≤ R.locals) (hr : (rest.map fun v => v.category).sum ≤ 8) (hc : k + rm.cells ≤ R.cells ∧ sl + rm.slots ≤ R.slots) (d : decode cc pc = .ok (.invokespecial idx, 3)) (kk : ∀ M' : Mm, q M' → Vj x g y cc nL ret R Q (k + rm.cells) (sl + rm.slots) M' (pc + 3) lv (rest)) : Vj x g y cc nL ret R Q k sl M pc lv (.ref (g.1 + a) :: rest) := r_runI (As := []) f ct rfl h0 hR hr hc d (fun v M' hp => by obtain ⟨rfl, hq⟩ := hp; exact kk M' hq)
theorem r_cI1v {a : Nat} {v1 : Value} {q : Mm → Prop} (f : CI y.cls idx y' cc' nL' 1) (ct : Ct g y' cc' nL' none rm [.ref (g.1 + a), v1] M (pV q)) (h0 : 0 < mN M) (hR : rm.frames + 1 ≤ R.frames ∧ 8 + (nL' + 11) + rm.locals ≤ R.locals) (hr : (rest.map fun v => v.category).sum ≤ 8) (hc : k + rm.cells ≤ R.cells ∧ sl + rm.slots ≤ R.slots) (d : decode cc pc = .ok (.invokespecial idx, 3)) (kk : ∀ M' : Mm, q M' → Vj x g y cc nL ret R Q (k + rm.cells) (sl + rm.slots) M' (pc + 3) lv (rest)) : Vj x g y cc nL ret R Q k sl M pc lv (v1 :: .ref (g.1 + a) :: rest) := r_runI (As := [v1]) f ct rfl h0 hR hr hc d (fun v M' hp => by obtain ⟨rfl, hq⟩ := hp; exact kk M' hq)
theorem r_cI2v {a : Nat} {v1 v2 : Value} {q : Mm → Prop} (f : CI y.cls idx y' cc' nL' 2) (ct : Ct g y' cc' nL' none rm [.ref (g.1 + a), v1, v2] M (pV q)) (h0 : 0 < mN M) (hR : rm.frames + 1 ≤ R.frames ∧ 8 + (nL' + 11) + rm.locals ≤ R.locals) (hr : (rest.map fun v => v.category).sum ≤ 8) (hc : k + rm.cells ≤ R.cells ∧ sl + rm.slots ≤ R.slots) (d : decode cc pc = .ok (.invokespecial idx, 3)) (kk : ∀ M' : Mm, q M' → Vj x g y cc nL ret R Q (k + rm.cells) (sl + rm.slots) M' (pc + 3) lv (rest)) : Vj x g y cc nL ret R Q k sl M pc lv (v2 :: v1 :: .ref (g.1 + a) :: rest) := r_runI (As := [v1, v2]) f ct rfl h0 hR hr hc d (fun v M' hp => by obtain ⟨rfl, hq⟩ := hp; exact kk M' hq)
theorem r_cI3v {a : Nat} {v1 v2 v3 : Value} {q : Mm → Prop} (f : CI y.cls idx y' cc' nL' 3) (ct : Ct g y' cc' nL' none rm [.ref (g.1 + a), v1, v2, v3] M (pV q)) (h0 : 0 < mN M) (hR : rm.frames + 1 ≤ R.frames ∧ 8 + (nL' + 11) + rm.locals ≤ R.locals) (hr : (rest.map fun v => v.category).sum ≤ 8) (hc : k + rm.cells ≤ R.cells ∧ sl + rm.slots ≤ R.slots) (d : decode cc pc = .ok (.invokespecial idx, 3)) (kk : ∀ M' : Mm, q M' → Vj x g y cc nL ret R Q (k + rm.cells) (sl + rm.slots) M' (pc + 3) lv (rest)) : Vj x g y cc nL ret R Q k sl M pc lv (v3 :: v2 :: v1 :: .ref (g.1 + a) :: rest) := r_runI (As := [v1, v2, v3]) f ct rfl h0 hR hr hc d (fun v M' hp => by obtain ⟨rfl, hq⟩ := hp; exact kk M' hq)
theorem r_cIN0v {a : Nat} {q : Mm → Prop} (f : CIN y.cls idx y' cc' nL' 0) (ct : Ct g y' cc' nL' none rm [.ref (g.1 + a)] M (pV q)) (h0 : 0 < mN M) (hR : rm.frames + 1 ≤ R.frames ∧ 8 + (nL' + 11) + rm.locals ≤ R.locals) (hr : (rest.map fun v => v.category).sum ≤ 8) (hc : k + rm.cells ≤ R.cells ∧ sl + rm.slots ≤ R.slots) (d : decode cc pc = .ok (.invokespecial idx, 3)) (kk : ∀ M' : Mm, q M' → Vj x g y cc nL ret R Q (k + rm.cells) (sl + rm.slots) M' (pc + 3) lv (rest)) : Vj x g y cc nL ret R Q k sl M pc lv (.ref (g.1 + a) :: rest) := r_runIN (As := []) f ct rfl h0 hR hr hc d (fun v M' hp => by obtain ⟨rfl, hq⟩ := hp; exact kk M' hq)
end Make
end
section
theorem tw0 : Cond.selects RX5 yX5_takes yX5_takes ∈ TB := tb_of (List.mem_of_getElem? (i := 0) (by decide +kernel)) (by decide +kernel)
theorem tw1 : Cond.selects RX5 yX5_takesStart yX5_takesStart ∈ TB := tb_of (List.mem_of_getElem? (i := 1) (by decide +kernel)) (by decide +kernel)
theorem tw2 : Cond.selects RX5 yX5_takesPayer yX5_takesPayer ∈ TB := tb_of (List.mem_of_getElem? (i := 2) (by decide +kernel)) (by decide +kernel)
theorem tw3 : Cond.selects RX5 yX5_takesRobbed yX5_takesRobbed ∈ TB := tb_of (List.mem_of_getElem? (i := 3) (by decide +kernel)) (by decide +kernel)
theorem tw4 : Cond.selects RX5 yX5_takesFee yX5_takesFee ∈ TB := tb_of (List.mem_of_getElem? (i := 4) (by decide +kernel)) (by decide +kernel)
theorem tw5 : Cond.selects RX5 yX5_takesComma yX5_takesComma ∈ TB := tb_of (List.mem_of_getElem? (i := 5) (by decide +kernel)) (by decide +kernel)
theorem tw6 : Cond.selects RX8 yX8_isThief yX8_isThief ∈ TB := tb_of (List.mem_of_getElem? (i := 6) (by decide +kernel)) (by decide +kernel)
theorem tw7 : Cond.selects RX8 yX8_isSpoon yX8_isSpoon ∈ TB := tb_of (List.mem_of_getElem? (i := 7) (by decide +kernel)) (by decide +kernel)
theorem tw8 : Cond.selects RX8 yX8_worthIn yX8_worthIn ∈ TB := tb_of (List.mem_of_getElem? (i := 8) (by decide +kernel)) (by decide +kernel)
theorem tw9 : Cond.selects RX8 yX8_monthWithout yX8_monthWithout ∈ TB := tb_of (List.mem_of_getElem? (i := 9) (by decide +kernel)) (by decide +kernel)
theorem tw10 : Cond.selects RX8 yX8_visit yX8_visit ∈ TB := tb_of (List.mem_of_getElem? (i := 10) (by decide +kernel)) (by decide +kernel)
theorem tw11 : Cond.selects RX8 yX8_picked yX8_picked ∈ TB := tb_of (List.mem_of_getElem? (i := 11) (by decide +kernel)) (by decide +kernel)
theorem tw12 : Cond.selects RX8 yX8_spreadOdds yX8_spreadOdds ∈ TB := tb_of (List.mem_of_getElem? (i := 12) (by decide +kernel)) (by decide +kernel)
theorem tw13 : Cond.selects RX8 yX8_spreadBy yX8_spreadBy ∈ TB := tb_of (List.mem_of_getElem? (i := 13) (by decide +kernel)) (by decide +kernel)
theorem tw14 : Cond.selects RX8 yX8_bestSet yX8_bestSet ∈ TB := tb_of (List.mem_of_getElem? (i := 14) (by decide +kernel)) (by decide +kernel)
theorem tw15 : Cond.selects RX8 yX8_couldBePaidBy yX8_couldBePaidBy ∈ TB := tb_of (List.mem_of_getElem? (i := 15) (by decide +kernel)) (by decide +kernel)
theorem tw16 : Cond.selects RX8 yX8_leftBy yX8_leftBy ∈ TB := tb_of (List.mem_of_getElem? (i := 16) (by decide +kernel)) (by decide +kernel)
theorem tw17 : Cond.selects RX8 yX8_wouldBeAsSeen yX8_wouldBeAsSeen ∈ TB := tb_of (List.mem_of_getElem? (i := 17) (by decide +kernel)) (by decide +kernel)
theorem tw18 : Cond.selects RX8 yX8_netAll yX8_netAll ∈ TB := tb_of (List.mem_of_getElem? (i := 18) (by decide +kernel)) (by decide +kernel)
theorem tw19 : Cond.selects RX8 yX8_mostGroupsWithOneLess yX8_mostGroupsWithOneLess ∈ TB := tb_of (List.mem_of_getElem? (i := 19) (by decide +kernel)) (by decide +kernel)
theorem tw20 : Cond.selects RX8 yX8_worthAtHome yX8_worthAtHome ∈ TB := tb_of (List.mem_of_getElem? (i := 20) (by decide +kernel)) (by decide +kernel)
theorem tw21 : Cond.selects RX8 yX8_spoonsAway yX8_spoonsAway ∈ TB := tb_of (List.mem_of_getElem? (i := 21) (by decide +kernel)) (by decide +kernel)
theorem tw22 : Cond.selects RX8 yX8_withThieves yX8_withThieves ∈ TB := tb_of (List.mem_of_getElem? (i := 22) (by decide +kernel)) (by decide +kernel)
theorem tw23 : Cond.selects RX8 yX8_withHouses yX8_withHouses ∈ TB := tb_of (List.mem_of_getElem? (i := 23) (by decide +kernel)) (by decide +kernel)
theorem tw24 : Cond.selects RX8 yX8_withSpoons yX8_withSpoons ∈ TB := tb_of (List.mem_of_getElem? (i := 24) (by decide +kernel)) (by decide +kernel)
theorem tw25 : Cond.selects RX8 yX8_withOutlook yX8_withOutlook ∈ TB := tb_of (List.mem_of_getElem? (i := 25) (by decide +kernel)) (by decide +kernel)
theorem tw26 : Cond.selects RX9 yX9_faultOf yX9_faultOf ∈ TB := tb_of (List.mem_of_getElem? (i := 26) (by decide +kernel)) (by decide +kernel)
theorem tw27 : Cond.selects RX9 yX9_go yX9_go ∈ TB := tb_of (List.mem_of_getElem? (i := 27) (by decide +kernel)) (by decide +kernel)
theorem tw28 : Cond.selects RX9 yX9_goDigit yX9_goDigit ∈ TB := tb_of (List.mem_of_getElem? (i := 28) (by decide +kernel)) (by decide +kernel)
theorem tw29 : Cond.selects RX9 yX9_isThief yX9_isThief ∈ TB := tb_of (List.mem_of_getElem? (i := 29) (by decide +kernel)) (by decide +kernel)
theorem tw30 : Cond.selects RX9 yX9_tell yX9_tell ∈ TB := tb_of (List.mem_of_getElem? (i := 30) (by decide +kernel)) (by decide +kernel)
theorem tw31 : Cond.selects RX9 yX9_isSpoon yX9_isSpoon ∈ TB := tb_of (List.mem_of_getElem? (i := 31) (by decide +kernel)) (by decide +kernel)
theorem tw32 : Cond.selects RX9 yX9_worthOf yX9_worthOf ∈ TB := tb_of (List.mem_of_getElem? (i := 32) (by decide +kernel)) (by decide +kernel)
theorem tw33 : Cond.selects RX9 yX9_lacks yX9_lacks ∈ TB := tb_of (List.mem_of_getElem? (i := 33) (by decide +kernel)) (by decide +kernel)
theorem tw34 : Cond.selects RX9 yX9_begin yX9_begin ∈ TB := tb_of (List.mem_of_getElem? (i := 34) (by decide +kernel)) (by decide +kernel)
theorem tw35 : Cond.selects RX9 yX9_pass yX9_pass ∈ TB := tb_of (List.mem_of_getElem? (i := 35) (by decide +kernel)) (by decide +kernel)
theorem tw36 : Cond.selects RX9 yX9_visit yX9_visit ∈ TB := tb_of (List.mem_of_getElem? (i := 36) (by decide +kernel)) (by decide +kernel)
theorem tw37 : Cond.selects RX9 yX9_fromOf yX9_fromOf ∈ TB := tb_of (List.mem_of_getElem? (i := 37) (by decide +kernel)) (by decide +kernel)
theorem tw38 : Cond.selects RX9 yX9_mayTake yX9_mayTake ∈ TB := tb_of (List.mem_of_getElem? (i := 38) (by decide +kernel)) (by decide +kernel)
theorem tw39 : Cond.selects RX9 yX9_pick yX9_pick ∈ TB := tb_of (List.mem_of_getElem? (i := 39) (by decide +kernel)) (by decide +kernel)
theorem tw40 : Cond.selects RX9 yX9_toOf yX9_toOf ∈ TB := tb_of (List.mem_of_getElem? (i := 40) (by decide +kernel)) (by decide +kernel)
theorem tw41 : Cond.selects RX9 yX9_whomOf yX9_whomOf ∈ TB := tb_of (List.mem_of_getElem? (i := 41) (by decide +kernel)) (by decide +kernel)
theorem tw42 : Cond.selects RX9 yX9_inHouse yX9_inHouse ∈ TB := tb_of (List.mem_of_getElem? (i := 42) (by decide +kernel)) (by decide +kernel)
theorem tw43 : Cond.selects RX9 yX9_stillOf yX9_stillOf ∈ TB := tb_of (List.mem_of_getElem? (i := 43) (by decide +kernel)) (by decide +kernel)
theorem tw44 : Cond.selects RX9 yX9_whoOf yX9_whoOf ∈ TB := tb_of (List.mem_of_getElem? (i := 44) (by decide +kernel)) (by decide +kernel)
theorem tw45 : Cond.selects RX9 yX9_isSeenSo yX9_isSeenSo ∈ TB := tb_of (List.mem_of_getElem? (i := 45) (by decide +kernel)) (by decide +kernel)
theorem tw46 : Cond.selects RX9 yX9_owesOf yX9_owesOf ∈ TB := tb_of (List.mem_of_getElem? (i := 46) (by decide +kernel)) (by decide +kernel)
theorem tw47 : Cond.selects RX9 yX9_fewestOf yX9_fewestOf ∈ TB := tb_of (List.mem_of_getElem? (i := 47) (by decide +kernel)) (by decide +kernel)
theorem tw48 : Cond.selects RX9 yX9_balance yX9_balance ∈ TB := tb_of (List.mem_of_getElem? (i := 48) (by decide +kernel)) (by decide +kernel)
theorem tw49 : Cond.selects RX9 yX9_draw yX9_draw ∈ TB := tb_of (List.mem_of_getElem? (i := 49) (by decide +kernel)) (by decide +kernel)
theorem tw50 : Cond.selects RX9 yX9_countOf yX9_countOf ∈ TB := tb_of (List.mem_of_getElem? (i := 50) (by decide +kernel)) (by decide +kernel)
theorem tw51 : Cond.selects RX9 yX9_say yX9_say ∈ TB := tb_of (List.mem_of_getElem? (i := 51) (by decide +kernel)) (by decide +kernel)
theorem tw52 : Cond.initialized RL ∈ TB := tb_of (List.mem_of_getElem? (i := 52) (by decide +kernel)) (by decide +kernel)
theorem tw53 : Cond.initialized RX8 ∈ TB := tb_of (List.mem_of_getElem? (i := 53) (by decide +kernel)) (by decide +kernel)
theorem tw54 : Cond.initialized RX4 ∈ TB := tb_of (List.mem_of_getElem? (i := 54) (by decide +kernel)) (by decide +kernel)
theorem tw55 : Cond.initialized RX5 ∈ TB := tb_of (List.mem_of_getElem? (i := 55) (by decide +kernel)) (by decide +kernel)
theorem tw56 : Cond.initialized RX1 ∈ TB := tb_of (List.mem_of_getElem? (i := 56) (by decide +kernel)) (by decide +kernel)
theorem tw57 : Cond.initialized RX7 ∈ TB := tb_of (List.mem_of_getElem? (i := 57) (by decide +kernel)) (by decide +kernel)
theorem tw58 : Cond.initialized RX9 ∈ TB := tb_of (List.mem_of_getElem? (i := 58) (by decide +kernel)) (by decide +kernel)
theorem tw59 : Cond.initialized RX6 ∈ TB := tb_of (List.mem_of_getElem? (i := 59) (by decide +kernel)) (by decide +kernel)
theorem tw60 : Cond.initialized RX0 ∈ TB := tb_of (List.mem_of_getElem? (i := 60) (by decide +kernel)) (by decide +kernel)
theorem tw61 : Cond.initialized RX2 ∈ TB := tb_of (List.mem_of_getElem? (i := 61) (by decide +kernel)) (by decide +kernel)
theorem tw62 : Cond.initialized RX3 ∈ TB := tb_of (List.mem_of_getElem? (i := 62) (by decide +kernel)) (by decide +kernel)
theorem tw63 : Cond.initialized RJ9 ∈ TB := tb_of (List.mem_of_getElem? (i := 63) (by decide +kernel)) (by decide +kernel)
theorem tw64 : Cond.initialized RJ6 ∈ TB := tb_of (List.mem_of_getElem? (i := 64) (by decide +kernel)) (by decide +kernel)
theorem tw65 : Cond.classLink RL (7) "ThievesPaid" ∈ TB := tb_of (List.mem_of_getElem? (i := 65) (by decide +kernel)) (by decide +kernel)
theorem tw66 : Cond.instantiable RX8 (18) ∈ TB := tb_of (List.mem_of_getElem? (i := 66) (by decide +kernel)) (by decide +kernel)
theorem tw67 : Cond.methodLink RL (9) yX8_init ∈ TB := tb_of (List.mem_of_getElem? (i := 67) (by decide +kernel)) (by decide +kernel)
theorem tw68 : Cond.instanceMethod yX8_init ∈ TB := tb_of (List.mem_of_getElem? (i := 68) (by decide +kernel)) (by decide +kernel)
theorem tw69 : Cond.code yX8_init prog_1_method_1_code (2) (Option.none : Option Jvm.ClassFile.FieldType) ∈ TB := tb_of (List.mem_of_getElem? (i := 69) (by decide +kernel)) (by decide +kernel)
theorem tw70 : Cond.methodLink RX8 (3) Lib.objectInit ∈ TB := tb_of (List.mem_of_getElem? (i := 70) (by decide +kernel)) (by decide +kernel)
theorem tw71 : Cond.instanceMethod Lib.objectInit ∈ TB := tb_of (List.mem_of_getElem? (i := 71) (by decide +kernel)) (by decide +kernel)
theorem tw72 : Cond.code Lib.objectInit object_method_1_code (1) (Option.none : Option Jvm.ClassFile.FieldType) ∈ TB := tb_of (List.mem_of_getElem? (i := 72) (by decide +kernel)) (by decide +kernel)
theorem tw73 : Cond.classLink RX8 (9) "ThievesPaid$Page" ∈ TB := tb_of (List.mem_of_getElem? (i := 73) (by decide +kernel)) (by decide +kernel)
theorem tw74 : Cond.instantiable RX4 (2) ∈ TB := tb_of (List.mem_of_getElem? (i := 74) (by decide +kernel)) (by decide +kernel)
theorem tw76 : Cond.instanceMethod yX4_init ∈ TB := tb_of (List.mem_of_getElem? (i := 76) (by decide +kernel)) (by decide +kernel)
theorem tw77 : Cond.code yX4_init prog_6_method_1_code (1) (Option.none : Option Jvm.ClassFile.FieldType) ∈ TB := tb_of (List.mem_of_getElem? (i := 77) (by decide +kernel)) (by decide +kernel)
theorem tw78 : Cond.methodLink RX4 (1) Lib.objectInit ∈ TB := tb_of (List.mem_of_getElem? (i := 78) (by decide +kernel)) (by decide +kernel)
theorem tw79 : Cond.fieldLink RX4 (9) "ThievesPaid$Page" "codes" "[I" ∈ TB := tb_of (List.mem_of_getElem? (i := 79) (by decide +kernel)) (by decide +kernel)
theorem tw80 : Cond.fieldLink RX5 (36) "ThievesPaid$Page" "codes" "[I" ∈ TB := tb_of (List.mem_of_getElem? (i := 80) (by decide +kernel)) (by decide +kernel)
theorem tw81 : Cond.fieldLink RX8 (92) "ThievesPaid$Page" "codes" "[I" ∈ TB := tb_of (List.mem_of_getElem? (i := 81) (by decide +kernel)) (by decide +kernel)
theorem tw82 : Cond.fieldLink RX4 (13) "ThievesPaid$Page" "size" "I" ∈ TB := tb_of (List.mem_of_getElem? (i := 82) (by decide +kernel)) (by decide +kernel)
theorem tw83 : Cond.fieldLink RX5 (31) "ThievesPaid$Page" "size" "I" ∈ TB := tb_of (List.mem_of_getElem? (i := 83) (by decide +kernel)) (by decide +kernel)
theorem tw84 : Cond.fieldLink RX8 (89) "ThievesPaid$Page" "size" "I" ∈ TB := tb_of (List.mem_of_getElem? (i := 84) (by decide +kernel)) (by decide +kernel)
theorem tw85 : Cond.laysFinal "ThievesPaid$Page" "ThievesPaid$Page" "codes" "[I" ∈ TB := tb_of (List.mem_of_getElem? (i := 85) (by decide +kernel)) (by decide +kernel)
theorem tw87 : Cond.lays "ThievesPaid$Page" "ThievesPaid$Page" "size" "I" ∈ TB := tb_of (List.mem_of_getElem? (i := 87) (by decide +kernel)) (by decide +kernel)
theorem tw90 : Cond.arrayClass Jvm.ClassFile.FieldType.int ∈ TB := tb_of (List.mem_of_getElem? (i := 90) (by decide +kernel)) (by decide +kernel)
theorem tw91 : Cond.classLink RX8 (16) "ThievesPaid$Reader" ∈ TB := tb_of (List.mem_of_getElem? (i := 91) (by decide +kernel)) (by decide +kernel)
theorem tw92 : Cond.instantiable RX5 (6) ∈ TB := tb_of (List.mem_of_getElem? (i := 92) (by decide +kernel)) (by decide +kernel)
theorem tw94 : Cond.instanceMethod yX5_init ∈ TB := tb_of (List.mem_of_getElem? (i := 94) (by decide +kernel)) (by decide +kernel)
theorem tw95 : Cond.code yX5_init prog_7_method_1_code (1) (Option.none : Option Jvm.ClassFile.FieldType) ∈ TB := tb_of (List.mem_of_getElem? (i := 95) (by decide +kernel)) (by decide +kernel)
theorem tw96 : Cond.methodLink RX5 (3) Lib.objectInit ∈ TB := tb_of (List.mem_of_getElem? (i := 96) (by decide +kernel)) (by decide +kernel)
theorem tw97 : Cond.fieldLink RX5 (9) "ThievesPaid$Reader" "kinds" "[I" ∈ TB := tb_of (List.mem_of_getElem? (i := 97) (by decide +kernel)) (by decide +kernel)
theorem tw98 : Cond.fieldLink RX8 (110) "ThievesPaid$Reader" "kinds" "[I" ∈ TB := tb_of (List.mem_of_getElem? (i := 98) (by decide +kernel)) (by decide +kernel)
theorem tw99 : Cond.fieldLink RX5 (15) "ThievesPaid$Reader" "payers" "[I" ∈ TB := tb_of (List.mem_of_getElem? (i := 99) (by decide +kernel)) (by decide +kernel)
theorem tw100 : Cond.fieldLink RX8 (113) "ThievesPaid$Reader" "payers" "[I" ∈ TB := tb_of (List.mem_of_getElem? (i := 100) (by decide +kernel)) (by decide +kernel)
theorem tw101 : Cond.fieldLink RX5 (18) "ThievesPaid$Reader" "robbed" "[I" ∈ TB := tb_of (List.mem_of_getElem? (i := 101) (by decide +kernel)) (by decide +kernel)
theorem tw102 : Cond.fieldLink RX8 (116) "ThievesPaid$Reader" "robbed" "[I" ∈ TB := tb_of (List.mem_of_getElem? (i := 102) (by decide +kernel)) (by decide +kernel)
theorem tw103 : Cond.fieldLink RX5 (21) "ThievesPaid$Reader" "fees" "[I" ∈ TB := tb_of (List.mem_of_getElem? (i := 103) (by decide +kernel)) (by decide +kernel)
theorem tw104 : Cond.fieldLink RX8 (119) "ThievesPaid$Reader" "fees" "[I" ∈ TB := tb_of (List.mem_of_getElem? (i := 104) (by decide +kernel)) (by decide +kernel)
theorem tw105 : Cond.fieldLink RX5 (24) "ThievesPaid$Reader" "read" "I" ∈ TB := tb_of (List.mem_of_getElem? (i := 105) (by decide +kernel)) (by decide +kernel)
theorem tw106 : Cond.fieldLink RX8 (107) "ThievesPaid$Reader" "read" "I" ∈ TB := tb_of (List.mem_of_getElem? (i := 106) (by decide +kernel)) (by decide +kernel)
theorem tw107 : Cond.fieldLink RX5 (28) "ThievesPaid$Reader" "stage" "I" ∈ TB := tb_of (List.mem_of_getElem? (i := 107) (by decide +kernel)) (by decide +kernel)
theorem tw108 : Cond.laysFinal "ThievesPaid$Reader" "ThievesPaid$Reader" "kinds" "[I" ∈ TB := tb_of (List.mem_of_getElem? (i := 108) (by decide +kernel)) (by decide +kernel)
theorem tw110 : Cond.laysFinal "ThievesPaid$Reader" "ThievesPaid$Reader" "payers" "[I" ∈ TB := tb_of (List.mem_of_getElem? (i := 110) (by decide +kernel)) (by decide +kernel)
theorem tw112 : Cond.laysFinal "ThievesPaid$Reader" "ThievesPaid$Reader" "robbed" "[I" ∈ TB := tb_of (List.mem_of_getElem? (i := 112) (by decide +kernel)) (by decide +kernel)
theorem tw114 : Cond.laysFinal "ThievesPaid$Reader" "ThievesPaid$Reader" "fees" "[I" ∈ TB := tb_of (List.mem_of_getElem? (i := 114) (by decide +kernel)) (by decide +kernel)
theorem tw116 : Cond.lays "ThievesPaid$Reader" "ThievesPaid$Reader" "read" "I" ∈ TB := tb_of (List.mem_of_getElem? (i := 116) (by decide +kernel)) (by decide +kernel)
theorem tw118 : Cond.lays "ThievesPaid$Reader" "ThievesPaid$Reader" "stage" "I" ∈ TB := tb_of (List.mem_of_getElem? (i := 118) (by decide +kernel)) (by decide +kernel)
theorem tw121 : Cond.classLink RX8 (23) "ThievesPaid$Thief" ∈ TB := tb_of (List.mem_of_getElem? (i := 121) (by decide +kernel)) (by decide +kernel)
theorem tw123 : Cond.classLink RX8 (36) "ThievesPaid$City" ∈ TB := tb_of (List.mem_of_getElem? (i := 123) (by decide +kernel)) (by decide +kernel)
theorem tw124 : Cond.instantiable RX1 (8) ∈ TB := tb_of (List.mem_of_getElem? (i := 124) (by decide +kernel)) (by decide +kernel)
theorem tw126 : Cond.instanceMethod yX1_init ∈ TB := tb_of (List.mem_of_getElem? (i := 126) (by decide +kernel)) (by decide +kernel)
theorem tw127 : Cond.code yX1_init prog_3_method_1_code (1) (Option.none : Option Jvm.ClassFile.FieldType) ∈ TB := tb_of (List.mem_of_getElem? (i := 127) (by decide +kernel)) (by decide +kernel)
theorem tw128 : Cond.methodLink RX1 (3) Lib.objectInit ∈ TB := tb_of (List.mem_of_getElem? (i := 128) (by decide +kernel)) (by decide +kernel)
theorem tw129 : Cond.fieldLink RX1 (9) "ThievesPaid$City" "at" "[I" ∈ TB := tb_of (List.mem_of_getElem? (i := 129) (by decide +kernel)) (by decide +kernel)
theorem tw130 : Cond.fieldLink RX8 (166) "ThievesPaid$City" "at" "[I" ∈ TB := tb_of (List.mem_of_getElem? (i := 130) (by decide +kernel)) (by decide +kernel)
theorem tw131 : Cond.fieldLink RX1 (15) "ThievesPaid$City" "seenAt" "[I" ∈ TB := tb_of (List.mem_of_getElem? (i := 131) (by decide +kernel)) (by decide +kernel)
theorem tw132 : Cond.fieldLink RX8 (169) "ThievesPaid$City" "seenAt" "[I" ∈ TB := tb_of (List.mem_of_getElem? (i := 132) (by decide +kernel)) (by decide +kernel)
theorem tw133 : Cond.fieldLink RX1 (18) "ThievesPaid$City" "locks" "[I" ∈ TB := tb_of (List.mem_of_getElem? (i := 133) (by decide +kernel)) (by decide +kernel)
theorem tw134 : Cond.fieldLink RX8 (160) "ThievesPaid$City" "locks" "[I" ∈ TB := tb_of (List.mem_of_getElem? (i := 134) (by decide +kernel)) (by decide +kernel)
theorem tw135 : Cond.fieldLink RX1 (21) "ThievesPaid$City" "dogs" "[Z" ∈ TB := tb_of (List.mem_of_getElem? (i := 135) (by decide +kernel)) (by decide +kernel)
theorem tw136 : Cond.fieldLink RX8 (163) "ThievesPaid$City" "dogs" "[Z" ∈ TB := tb_of (List.mem_of_getElem? (i := 136) (by decide +kernel)) (by decide +kernel)
theorem tw137 : Cond.fieldLink RX1 (25) "ThievesPaid$City" "isPaid" "[Z" ∈ TB := tb_of (List.mem_of_getElem? (i := 137) (by decide +kernel)) (by decide +kernel)
theorem tw138 : Cond.fieldLink RX8 (126) "ThievesPaid$City" "isPaid" "[Z" ∈ TB := tb_of (List.mem_of_getElem? (i := 138) (by decide +kernel)) (by decide +kernel)
theorem tw139 : Cond.fieldLink RX1 (28) "ThievesPaid$City" "tenthsOf" "[I" ∈ TB := tb_of (List.mem_of_getElem? (i := 139) (by decide +kernel)) (by decide +kernel)
theorem tw140 : Cond.fieldLink RX8 (130) "ThievesPaid$City" "tenthsOf" "[I" ∈ TB := tb_of (List.mem_of_getElem? (i := 140) (by decide +kernel)) (by decide +kernel)
theorem tw141 : Cond.fieldLink RX1 (31) "ThievesPaid$City" "monthsGone" "I" ∈ TB := tb_of (List.mem_of_getElem? (i := 141) (by decide +kernel)) (by decide +kernel)
theorem tw142 : Cond.fieldLink RX8 (182) "ThievesPaid$City" "monthsGone" "I" ∈ TB := tb_of (List.mem_of_getElem? (i := 142) (by decide +kernel)) (by decide +kernel)
theorem tw143 : Cond.fieldLink RX1 (35) "ThievesPaid$City" "feesPaid" "I" ∈ TB := tb_of (List.mem_of_getElem? (i := 143) (by decide +kernel)) (by decide +kernel)
theorem tw144 : Cond.fieldLink RX8 (179) "ThievesPaid$City" "feesPaid" "I" ∈ TB := tb_of (List.mem_of_getElem? (i := 144) (by decide +kernel)) (by decide +kernel)
theorem tw145 : Cond.laysFinal "ThievesPaid$City" "ThievesPaid$City" "at" "[I" ∈ TB := tb_of (List.mem_of_getElem? (i := 145) (by decide +kernel)) (by decide +kernel)
theorem tw147 : Cond.laysFinal "ThievesPaid$City" "ThievesPaid$City" "seenAt" "[I" ∈ TB := tb_of (List.mem_of_getElem? (i := 147) (by decide +kernel)) (by decide +kernel)
theorem tw149 : Cond.laysFinal "ThievesPaid$City" "ThievesPaid$City" "locks" "[I" ∈ TB := tb_of (List.mem_of_getElem? (i := 149) (by decide +kernel)) (by decide +kernel)
theorem tw151 : Cond.laysFinal "ThievesPaid$City" "ThievesPaid$City" "dogs" "[Z" ∈ TB := tb_of (List.mem_of_getElem? (i := 151) (by decide +kernel)) (by decide +kernel)
theorem tw153 : Cond.laysFinal "ThievesPaid$City" "ThievesPaid$City" "isPaid" "[Z" ∈ TB := tb_of (List.mem_of_getElem? (i := 153) (by decide +kernel)) (by decide +kernel)
theorem tw155 : Cond.laysFinal "ThievesPaid$City" "ThievesPaid$City" "tenthsOf" "[I" ∈ TB := tb_of (List.mem_of_getElem? (i := 155) (by decide +kernel)) (by decide +kernel)
theorem tw157 : Cond.lays "ThievesPaid$City" "ThievesPaid$City" "monthsGone" "I" ∈ TB := tb_of (List.mem_of_getElem? (i := 157) (by decide +kernel)) (by decide +kernel)
theorem tw159 : Cond.lays "ThievesPaid$City" "ThievesPaid$City" "feesPaid" "I" ∈ TB := tb_of (List.mem_of_getElem? (i := 159) (by decide +kernel)) (by decide +kernel)
theorem tw162 : Cond.arrayClass Jvm.ClassFile.FieldType.boolean ∈ TB := tb_of (List.mem_of_getElem? (i := 162) (by decide +kernel)) (by decide +kernel)
theorem tw163 : Cond.instantiable RX7 (3) ∈ TB := tb_of (List.mem_of_getElem? (i := 163) (by decide +kernel)) (by decide +kernel)
theorem tw164 : Cond.methodLink RX8 (82) yX7_init ∈ TB := tb_of (List.mem_of_getElem? (i := 164) (by decide +kernel)) (by decide +kernel)
theorem tw165 : Cond.instanceMethod yX7_init ∈ TB := tb_of (List.mem_of_getElem? (i := 165) (by decide +kernel)) (by decide +kernel)
theorem tw166 : Cond.code yX7_init prog_9_method_1_code (4) (Option.none : Option Jvm.ClassFile.FieldType) ∈ TB := tb_of (List.mem_of_getElem? (i := 166) (by decide +kernel)) (by decide +kernel)
theorem tw167 : Cond.methodLink RX7 (1) Lib.objectInit ∈ TB := tb_of (List.mem_of_getElem? (i := 167) (by decide +kernel)) (by decide +kernel)
theorem tw168 : Cond.fieldLink RX7 (7) "ThievesPaid$Thief" "payer" "I" ∈ TB := tb_of (List.mem_of_getElem? (i := 168) (by decide +kernel)) (by decide +kernel)
theorem tw169 : Cond.fieldLink RX8 (141) "ThievesPaid$Thief" "payer" "I" ∈ TB := tb_of (List.mem_of_getElem? (i := 169) (by decide +kernel)) (by decide +kernel)
theorem tw170 : Cond.fieldLink RX7 (13) "ThievesPaid$Thief" "robbed" "I" ∈ TB := tb_of (List.mem_of_getElem? (i := 170) (by decide +kernel)) (by decide +kernel)
theorem tw171 : Cond.fieldLink RX8 (144) "ThievesPaid$Thief" "robbed" "I" ∈ TB := tb_of (List.mem_of_getElem? (i := 171) (by decide +kernel)) (by decide +kernel)
theorem tw172 : Cond.fieldLink RX7 (16) "ThievesPaid$Thief" "fee" "I" ∈ TB := tb_of (List.mem_of_getElem? (i := 172) (by decide +kernel)) (by decide +kernel)
theorem tw173 : Cond.fieldLink RX8 (146) "ThievesPaid$Thief" "fee" "I" ∈ TB := tb_of (List.mem_of_getElem? (i := 173) (by decide +kernel)) (by decide +kernel)
theorem tw174 : Cond.laysFinal "ThievesPaid$Thief" "ThievesPaid$Thief" "payer" "I" ∈ TB := tb_of (List.mem_of_getElem? (i := 174) (by decide +kernel)) (by decide +kernel)
theorem tw176 : Cond.laysFinal "ThievesPaid$Thief" "ThievesPaid$Thief" "robbed" "I" ∈ TB := tb_of (List.mem_of_getElem? (i := 176) (by decide +kernel)) (by decide +kernel)
theorem tw178 : Cond.laysFinal "ThievesPaid$Thief" "ThievesPaid$Thief" "fee" "I" ∈ TB := tb_of (List.mem_of_getElem? (i := 178) (by decide +kernel)) (by decide +kernel)
theorem tw181 : Cond.arrayClass Jvm.ClassFile.FieldType.long ∈ TB := tb_of (List.mem_of_getElem? (i := 181) (by decide +kernel)) (by decide +kernel)
theorem tw182 : Cond.fieldLink RX8 (12) "ThievesPaid" "page" "LThievesPaid$Page;" ∈ TB := tb_of (List.mem_of_getElem? (i := 182) (by decide +kernel)) (by decide +kernel)
theorem tw183 : Cond.fieldLink RX8 (19) "ThievesPaid" "reader" "LThievesPaid$Reader;" ∈ TB := tb_of (List.mem_of_getElem? (i := 183) (by decide +kernel)) (by decide +kernel)
theorem tw184 : Cond.fieldLink RX8 (25) "ThievesPaid" "thieves" "[LThievesPaid$Thief;" ∈ TB := tb_of (List.mem_of_getElem? (i := 184) (by decide +kernel)) (by decide +kernel)
theorem tw185 : Cond.fieldLink RX8 (29) "ThievesPaid" "worths" "[I" ∈ TB := tb_of (List.mem_of_getElem? (i := 185) (by decide +kernel)) (by decide +kernel)
theorem tw186 : Cond.fieldLink RX8 (33) "ThievesPaid" "owners" "[I" ∈ TB := tb_of (List.mem_of_getElem? (i := 186) (by decide +kernel)) (by decide +kernel)
theorem tw187 : Cond.fieldLink RX8 (39) "ThievesPaid" "now" "LThievesPaid$City;" ∈ TB := tb_of (List.mem_of_getElem? (i := 187) (by decide +kernel)) (by decide +kernel)
theorem tw188 : Cond.fieldLink RX8 (43) "ThievesPaid" "kept" "LThievesPaid$City;" ∈ TB := tb_of (List.mem_of_getElem? (i := 188) (by decide +kernel)) (by decide +kernel)
theorem tw189 : Cond.fieldLink RX8 (46) "ThievesPaid" "tried" "LThievesPaid$City;" ∈ TB := tb_of (List.mem_of_getElem? (i := 189) (by decide +kernel)) (by decide +kernel)
theorem tw190 : Cond.fieldLink RX8 (49) "ThievesPaid" "odds" "[J" ∈ TB := tb_of (List.mem_of_getElem? (i := 190) (by decide +kernel)) (by decide +kernel)
theorem tw191 : Cond.fieldLink RX8 (53) "ThievesPaid" "nets" "[I" ∈ TB := tb_of (List.mem_of_getElem? (i := 191) (by decide +kernel)) (by decide +kernel)
theorem tw192 : Cond.fieldLink RX8 (56) "ThievesPaid" "netSums" "[I" ∈ TB := tb_of (List.mem_of_getElem? (i := 192) (by decide +kernel)) (by decide +kernel)
theorem tw193 : Cond.fieldLink RX8 (59) "ThievesPaid" "mostGroups" "[I" ∈ TB := tb_of (List.mem_of_getElem? (i := 193) (by decide +kernel)) (by decide +kernel)
theorem tw194 : Cond.fieldLink RX8 (62) "ThievesPaid" "thiefCount" "I" ∈ TB := tb_of (List.mem_of_getElem? (i := 194) (by decide +kernel)) (by decide +kernel)
theorem tw195 : Cond.fieldLink RX8 (66) "ThievesPaid" "spoonCount" "I" ∈ TB := tb_of (List.mem_of_getElem? (i := 195) (by decide +kernel)) (by decide +kernel)
theorem tw196 : Cond.fieldLink RX8 (69) "ThievesPaid" "timesRead" "I" ∈ TB := tb_of (List.mem_of_getElem? (i := 196) (by decide +kernel)) (by decide +kernel)
theorem tw197 : Cond.fieldLink RX8 (72) "ThievesPaid" "hasImage" "Z" ∈ TB := tb_of (List.mem_of_getElem? (i := 197) (by decide +kernel)) (by decide +kernel)
theorem tw198 : Cond.fieldLink RX8 (76) "ThievesPaid" "imageTimesRead" "I" ∈ TB := tb_of (List.mem_of_getElem? (i := 198) (by decide +kernel)) (by decide +kernel)
theorem tw199 : Cond.fieldLink RX8 (79) "ThievesPaid" "imageSpoonCount" "I" ∈ TB := tb_of (List.mem_of_getElem? (i := 199) (by decide +kernel)) (by decide +kernel)
theorem tw200 : Cond.laysFinal "ThievesPaid" "ThievesPaid" "page" "LThievesPaid$Page;" ∈ TB := tb_of (List.mem_of_getElem? (i := 200) (by decide +kernel)) (by decide +kernel)
theorem tw202 : Cond.laysFinal "ThievesPaid" "ThievesPaid" "reader" "LThievesPaid$Reader;" ∈ TB := tb_of (List.mem_of_getElem? (i := 202) (by decide +kernel)) (by decide +kernel)
theorem tw204 : Cond.laysFinal "ThievesPaid" "ThievesPaid" "thieves" "[LThievesPaid$Thief;" ∈ TB := tb_of (List.mem_of_getElem? (i := 204) (by decide +kernel)) (by decide +kernel)
theorem tw206 : Cond.laysFinal "ThievesPaid" "ThievesPaid" "worths" "[I" ∈ TB := tb_of (List.mem_of_getElem? (i := 206) (by decide +kernel)) (by decide +kernel)
theorem tw208 : Cond.laysFinal "ThievesPaid" "ThievesPaid" "owners" "[I" ∈ TB := tb_of (List.mem_of_getElem? (i := 208) (by decide +kernel)) (by decide +kernel)
theorem tw210 : Cond.laysFinal "ThievesPaid" "ThievesPaid" "now" "LThievesPaid$City;" ∈ TB := tb_of (List.mem_of_getElem? (i := 210) (by decide +kernel)) (by decide +kernel)
theorem tw212 : Cond.laysFinal "ThievesPaid" "ThievesPaid" "kept" "LThievesPaid$City;" ∈ TB := tb_of (List.mem_of_getElem? (i := 212) (by decide +kernel)) (by decide +kernel)
theorem tw214 : Cond.laysFinal "ThievesPaid" "ThievesPaid" "tried" "LThievesPaid$City;" ∈ TB := tb_of (List.mem_of_getElem? (i := 214) (by decide +kernel)) (by decide +kernel)
theorem tw216 : Cond.laysFinal "ThievesPaid" "ThievesPaid" "odds" "[J" ∈ TB := tb_of (List.mem_of_getElem? (i := 216) (by decide +kernel)) (by decide +kernel)
theorem tw218 : Cond.laysFinal "ThievesPaid" "ThievesPaid" "nets" "[I" ∈ TB := tb_of (List.mem_of_getElem? (i := 218) (by decide +kernel)) (by decide +kernel)
theorem tw220 : Cond.laysFinal "ThievesPaid" "ThievesPaid" "netSums" "[I" ∈ TB := tb_of (List.mem_of_getElem? (i := 220) (by decide +kernel)) (by decide +kernel)
theorem tw222 : Cond.laysFinal "ThievesPaid" "ThievesPaid" "mostGroups" "[I" ∈ TB := tb_of (List.mem_of_getElem? (i := 222) (by decide +kernel)) (by decide +kernel)
theorem tw224 : Cond.lays "ThievesPaid" "ThievesPaid" "thiefCount" "I" ∈ TB := tb_of (List.mem_of_getElem? (i := 224) (by decide +kernel)) (by decide +kernel)
theorem tw226 : Cond.lays "ThievesPaid" "ThievesPaid" "spoonCount" "I" ∈ TB := tb_of (List.mem_of_getElem? (i := 226) (by decide +kernel)) (by decide +kernel)
theorem tw228 : Cond.lays "ThievesPaid" "ThievesPaid" "timesRead" "I" ∈ TB := tb_of (List.mem_of_getElem? (i := 228) (by decide +kernel)) (by decide +kernel)
theorem tw230 : Cond.lays "ThievesPaid" "ThievesPaid" "hasImage" "Z" ∈ TB := tb_of (List.mem_of_getElem? (i := 230) (by decide +kernel)) (by decide +kernel)
theorem tw232 : Cond.lays "ThievesPaid" "ThievesPaid" "imageTimesRead" "I" ∈ TB := tb_of (List.mem_of_getElem? (i := 232) (by decide +kernel)) (by decide +kernel)
theorem tw234 : Cond.lays "ThievesPaid" "ThievesPaid" "imageSpoonCount" "I" ∈ TB := tb_of (List.mem_of_getElem? (i := 234) (by decide +kernel)) (by decide +kernel)
theorem tw237 : Cond.methodLink RL (15) yX8_letters ∈ TB := tb_of (List.mem_of_getElem? (i := 237) (by decide +kernel)) (by decide +kernel)
theorem tw238 : Cond.instanceMethod yX8_letters ∈ TB := tb_of (List.mem_of_getElem? (i := 238) (by decide +kernel)) (by decide +kernel)
theorem tw239 : Cond.selects RX8 yX8_letters yX8_letters ∈ TB := tb_of (List.mem_of_getElem? (i := 239) (by decide +kernel)) (by decide +kernel)
theorem tw240 : Cond.code yX8_letters prog_1_method_2_code (5) (Option.some Jvm.ClassFile.FieldType.int) ∈ TB := tb_of (List.mem_of_getElem? (i := 240) (by decide +kernel)) (by decide +kernel)
theorem tw241 : Cond.methodLink RX8 (85) yX8_lettersTold ∈ TB := tb_of (List.mem_of_getElem? (i := 241) (by decide +kernel)) (by decide +kernel)
theorem tw242 : Cond.static yX8_lettersTold ∈ TB := tb_of (List.mem_of_getElem? (i := 242) (by decide +kernel)) (by decide +kernel)
theorem tw243 : Cond.code yX8_lettersTold prog_1_method_34_code (5) (Option.some Jvm.ClassFile.FieldType.int) ∈ TB := tb_of (List.mem_of_getElem? (i := 243) (by decide +kernel)) (by decide +kernel)
theorem tw244 : Cond.methodLink RX8 (95) yX8_byteOf ∈ TB := tb_of (List.mem_of_getElem? (i := 244) (by decide +kernel)) (by decide +kernel)
theorem tw245 : Cond.static yX8_byteOf ∈ TB := tb_of (List.mem_of_getElem? (i := 245) (by decide +kernel)) (by decide +kernel)
theorem tw246 : Cond.code yX8_byteOf prog_1_method_33_code (3) (Option.some Jvm.ClassFile.FieldType.int) ∈ TB := tb_of (List.mem_of_getElem? (i := 246) (by decide +kernel)) (by decide +kernel)
theorem tw247 : Cond.methodLink RL (20) yX8_blank ∈ TB := tb_of (List.mem_of_getElem? (i := 247) (by decide +kernel)) (by decide +kernel)
theorem tw248 : Cond.instanceMethod yX8_blank ∈ TB := tb_of (List.mem_of_getElem? (i := 248) (by decide +kernel)) (by decide +kernel)
theorem tw249 : Cond.selects RX8 yX8_blank yX8_blank ∈ TB := tb_of (List.mem_of_getElem? (i := 249) (by decide +kernel)) (by decide +kernel)
theorem tw250 : Cond.code yX8_blank prog_1_method_3_code (2) (Option.some Jvm.ClassFile.FieldType.int) ∈ TB := tb_of (List.mem_of_getElem? (i := 250) (by decide +kernel)) (by decide +kernel)
theorem tw251 : Cond.methodLink RL (25) yX8_fault ∈ TB := tb_of (List.mem_of_getElem? (i := 251) (by decide +kernel)) (by decide +kernel)
theorem tw252 : Cond.instanceMethod yX8_fault ∈ TB := tb_of (List.mem_of_getElem? (i := 252) (by decide +kernel)) (by decide +kernel)
theorem tw253 : Cond.selects RX8 yX8_fault yX8_fault ∈ TB := tb_of (List.mem_of_getElem? (i := 253) (by decide +kernel)) (by decide +kernel)
theorem tw254 : Cond.code yX8_fault prog_1_method_4_code (1) (Option.some Jvm.ClassFile.FieldType.int) ∈ TB := tb_of (List.mem_of_getElem? (i := 254) (by decide +kernel)) (by decide +kernel)
theorem tw255 : Cond.methodLink RX8 (99) yX5_readAhead ∈ TB := tb_of (List.mem_of_getElem? (i := 255) (by decide +kernel)) (by decide +kernel)
theorem tw256 : Cond.instanceMethod yX5_readAhead ∈ TB := tb_of (List.mem_of_getElem? (i := 256) (by decide +kernel)) (by decide +kernel)
theorem tw257 : Cond.selects RX5 yX5_readAhead yX5_readAhead ∈ TB := tb_of (List.mem_of_getElem? (i := 257) (by decide +kernel)) (by decide +kernel)
theorem tw258 : Cond.code yX5_readAhead prog_7_method_2_code (3) (Option.some Jvm.ClassFile.FieldType.int) ∈ TB := tb_of (List.mem_of_getElem? (i := 258) (by decide +kernel)) (by decide +kernel)
theorem tw259 : Cond.methodLink RX5 (39) yX5_takes ∈ TB := tb_of (List.mem_of_getElem? (i := 259) (by decide +kernel)) (by decide +kernel)
theorem tw261 : Cond.instanceMethod yX5_takes ∈ TB := tb_of (List.mem_of_getElem? (i := 261) (by decide +kernel)) (by decide +kernel)
theorem tw262 : Cond.code yX5_takes prog_7_method_4_code (2) (Option.some Jvm.ClassFile.FieldType.boolean) ∈ TB := tb_of (List.mem_of_getElem? (i := 262) (by decide +kernel)) (by decide +kernel)
theorem tw263 : Cond.methodLink RX5 (43) yX5_takesStart ∈ TB := tb_of (List.mem_of_getElem? (i := 263) (by decide +kernel)) (by decide +kernel)
theorem tw265 : Cond.instanceMethod yX5_takesStart ∈ TB := tb_of (List.mem_of_getElem? (i := 265) (by decide +kernel)) (by decide +kernel)
theorem tw266 : Cond.code yX5_takesStart prog_7_method_5_code (2) (Option.some Jvm.ClassFile.FieldType.boolean) ∈ TB := tb_of (List.mem_of_getElem? (i := 266) (by decide +kernel)) (by decide +kernel)
theorem tw267 : Cond.methodLink RX5 (58) yX5_kindOf ∈ TB := tb_of (List.mem_of_getElem? (i := 267) (by decide +kernel)) (by decide +kernel)
theorem tw268 : Cond.static yX5_kindOf ∈ TB := tb_of (List.mem_of_getElem? (i := 268) (by decide +kernel)) (by decide +kernel)
theorem tw269 : Cond.code yX5_kindOf prog_7_method_10_code (1) (Option.some Jvm.ClassFile.FieldType.int) ∈ TB := tb_of (List.mem_of_getElem? (i := 269) (by decide +kernel)) (by decide +kernel)
theorem tw270 : Cond.methodLink RX5 (46) yX5_takesPayer ∈ TB := tb_of (List.mem_of_getElem? (i := 270) (by decide +kernel)) (by decide +kernel)
theorem tw272 : Cond.instanceMethod yX5_takesPayer ∈ TB := tb_of (List.mem_of_getElem? (i := 272) (by decide +kernel)) (by decide +kernel)
theorem tw273 : Cond.code yX5_takesPayer prog_7_method_6_code (2) (Option.some Jvm.ClassFile.FieldType.boolean) ∈ TB := tb_of (List.mem_of_getElem? (i := 273) (by decide +kernel)) (by decide +kernel)
theorem tw275 : Cond.static yX8_isHouse ∈ TB := tb_of (List.mem_of_getElem? (i := 275) (by decide +kernel)) (by decide +kernel)
theorem tw276 : Cond.code yX8_isHouse prog_1_method_31_code (1) (Option.some Jvm.ClassFile.FieldType.boolean) ∈ TB := tb_of (List.mem_of_getElem? (i := 276) (by decide +kernel)) (by decide +kernel)
theorem tw277 : Cond.methodLink RX5 (49) yX5_takesRobbed ∈ TB := tb_of (List.mem_of_getElem? (i := 277) (by decide +kernel)) (by decide +kernel)
theorem tw279 : Cond.instanceMethod yX5_takesRobbed ∈ TB := tb_of (List.mem_of_getElem? (i := 279) (by decide +kernel)) (by decide +kernel)
theorem tw280 : Cond.code yX5_takesRobbed prog_7_method_7_code (2) (Option.some Jvm.ClassFile.FieldType.boolean) ∈ TB := tb_of (List.mem_of_getElem? (i := 280) (by decide +kernel)) (by decide +kernel)
theorem tw281 : Cond.methodLink RX5 (52) yX5_takesFee ∈ TB := tb_of (List.mem_of_getElem? (i := 281) (by decide +kernel)) (by decide +kernel)
theorem tw283 : Cond.instanceMethod yX5_takesFee ∈ TB := tb_of (List.mem_of_getElem? (i := 283) (by decide +kernel)) (by decide +kernel)
theorem tw284 : Cond.code yX5_takesFee prog_7_method_8_code (2) (Option.some Jvm.ClassFile.FieldType.boolean) ∈ TB := tb_of (List.mem_of_getElem? (i := 284) (by decide +kernel)) (by decide +kernel)
theorem tw285 : Cond.methodLink RX5 (55) yX5_takesComma ∈ TB := tb_of (List.mem_of_getElem? (i := 285) (by decide +kernel)) (by decide +kernel)
theorem tw287 : Cond.instanceMethod yX5_takesComma ∈ TB := tb_of (List.mem_of_getElem? (i := 287) (by decide +kernel)) (by decide +kernel)
theorem tw288 : Cond.code yX5_takesComma prog_7_method_9_code (2) (Option.some Jvm.ClassFile.FieldType.boolean) ∈ TB := tb_of (List.mem_of_getElem? (i := 288) (by decide +kernel)) (by decide +kernel)
theorem tw289 : Cond.methodLink RL (29) yX8_contracts ∈ TB := tb_of (List.mem_of_getElem? (i := 289) (by decide +kernel)) (by decide +kernel)
theorem tw290 : Cond.instanceMethod yX8_contracts ∈ TB := tb_of (List.mem_of_getElem? (i := 290) (by decide +kernel)) (by decide +kernel)
theorem tw291 : Cond.selects RX8 yX8_contracts yX8_contracts ∈ TB := tb_of (List.mem_of_getElem? (i := 291) (by decide +kernel)) (by decide +kernel)
theorem tw292 : Cond.code yX8_contracts prog_1_method_5_code (2) (Option.some Jvm.ClassFile.FieldType.int) ∈ TB := tb_of (List.mem_of_getElem? (i := 292) (by decide +kernel)) (by decide +kernel)
theorem tw293 : Cond.methodLink RX8 (103) yX5_isAtEnd ∈ TB := tb_of (List.mem_of_getElem? (i := 293) (by decide +kernel)) (by decide +kernel)
theorem tw294 : Cond.instanceMethod yX5_isAtEnd ∈ TB := tb_of (List.mem_of_getElem? (i := 294) (by decide +kernel)) (by decide +kernel)
theorem tw295 : Cond.selects RX5 yX5_isAtEnd yX5_isAtEnd ∈ TB := tb_of (List.mem_of_getElem? (i := 295) (by decide +kernel)) (by decide +kernel)
theorem tw296 : Cond.code yX5_isAtEnd prog_7_method_3_code (1) (Option.some Jvm.ClassFile.FieldType.boolean) ∈ TB := tb_of (List.mem_of_getElem? (i := 296) (by decide +kernel)) (by decide +kernel)
theorem tw297 : Cond.methodLink RX8 (122) yX8_hired ∈ TB := tb_of (List.mem_of_getElem? (i := 297) (by decide +kernel)) (by decide +kernel)
theorem tw298 : Cond.static yX8_hired ∈ TB := tb_of (List.mem_of_getElem? (i := 298) (by decide +kernel)) (by decide +kernel)
theorem tw299 : Cond.code yX8_hired prog_1_method_35_code (4) (Option.some (Jvm.ClassFile.FieldType.object "ThievesPaid$Thief")) ∈ TB := tb_of (List.mem_of_getElem? (i := 299) (by decide +kernel)) (by decide +kernel)
theorem tw300 : Cond.classLink RX8 (275) "ThievesPaid$Skilled" ∈ TB := tb_of (List.mem_of_getElem? (i := 300) (by decide +kernel)) (by decide +kernel)
theorem tw301 : Cond.instantiable RX6 (3) ∈ TB := tb_of (List.mem_of_getElem? (i := 301) (by decide +kernel)) (by decide +kernel)
theorem tw302 : Cond.methodLink RX8 (277) yX6_init ∈ TB := tb_of (List.mem_of_getElem? (i := 302) (by decide +kernel)) (by decide +kernel)
theorem tw303 : Cond.instanceMethod yX6_init ∈ TB := tb_of (List.mem_of_getElem? (i := 303) (by decide +kernel)) (by decide +kernel)
theorem tw304 : Cond.code yX6_init prog_8_method_1_code (4) (Option.none : Option Jvm.ClassFile.FieldType) ∈ TB := tb_of (List.mem_of_getElem? (i := 304) (by decide +kernel)) (by decide +kernel)
theorem tw305 : Cond.methodLink RX6 (1) yX7_init ∈ TB := tb_of (List.mem_of_getElem? (i := 305) (by decide +kernel)) (by decide +kernel)
theorem tw306 : Cond.laysFinal "ThievesPaid$Skilled" "ThievesPaid$Thief" "payer" "I" ∈ TB := tb_of (List.mem_of_getElem? (i := 306) (by decide +kernel)) (by decide +kernel)
theorem tw307 : Cond.laysFinal "ThievesPaid$Skilled" "ThievesPaid$Thief" "robbed" "I" ∈ TB := tb_of (List.mem_of_getElem? (i := 307) (by decide +kernel)) (by decide +kernel)
theorem tw308 : Cond.laysFinal "ThievesPaid$Skilled" "ThievesPaid$Thief" "fee" "I" ∈ TB := tb_of (List.mem_of_getElem? (i := 308) (by decide +kernel)) (by decide +kernel)
theorem tw310 : Cond.classLink RX8 (278) "ThievesPaid$Brother" ∈ TB := tb_of (List.mem_of_getElem? (i := 310) (by decide +kernel)) (by decide +kernel)
theorem tw311 : Cond.instantiable RX0 (3) ∈ TB := tb_of (List.mem_of_getElem? (i := 311) (by decide +kernel)) (by decide +kernel)
theorem tw312 : Cond.methodLink RX8 (280) yX0_init ∈ TB := tb_of (List.mem_of_getElem? (i := 312) (by decide +kernel)) (by decide +kernel)
theorem tw313 : Cond.instanceMethod yX0_init ∈ TB := tb_of (List.mem_of_getElem? (i := 313) (by decide +kernel)) (by decide +kernel)
theorem tw314 : Cond.code yX0_init prog_2_method_1_code (4) (Option.none : Option Jvm.ClassFile.FieldType) ∈ TB := tb_of (List.mem_of_getElem? (i := 314) (by decide +kernel)) (by decide +kernel)
theorem tw315 : Cond.methodLink RX0 (1) yX7_init ∈ TB := tb_of (List.mem_of_getElem? (i := 315) (by decide +kernel)) (by decide +kernel)
theorem tw316 : Cond.laysFinal "ThievesPaid$Brother" "ThievesPaid$Thief" "payer" "I" ∈ TB := tb_of (List.mem_of_getElem? (i := 316) (by decide +kernel)) (by decide +kernel)
theorem tw317 : Cond.laysFinal "ThievesPaid$Brother" "ThievesPaid$Thief" "robbed" "I" ∈ TB := tb_of (List.mem_of_getElem? (i := 317) (by decide +kernel)) (by decide +kernel)
theorem tw318 : Cond.laysFinal "ThievesPaid$Brother" "ThievesPaid$Thief" "fee" "I" ∈ TB := tb_of (List.mem_of_getElem? (i := 318) (by decide +kernel)) (by decide +kernel)
theorem tw320 : Cond.classLink RX8 (281) "ThievesPaid$Honest" ∈ TB := tb_of (List.mem_of_getElem? (i := 320) (by decide +kernel)) (by decide +kernel)
theorem tw321 : Cond.instantiable RX2 (3) ∈ TB := tb_of (List.mem_of_getElem? (i := 321) (by decide +kernel)) (by decide +kernel)
theorem tw322 : Cond.methodLink RX8 (283) yX2_init ∈ TB := tb_of (List.mem_of_getElem? (i := 322) (by decide +kernel)) (by decide +kernel)
theorem tw323 : Cond.instanceMethod yX2_init ∈ TB := tb_of (List.mem_of_getElem? (i := 323) (by decide +kernel)) (by decide +kernel)
theorem tw324 : Cond.code yX2_init prog_4_method_1_code (4) (Option.none : Option Jvm.ClassFile.FieldType) ∈ TB := tb_of (List.mem_of_getElem? (i := 324) (by decide +kernel)) (by decide +kernel)
theorem tw325 : Cond.methodLink RX2 (1) yX7_init ∈ TB := tb_of (List.mem_of_getElem? (i := 325) (by decide +kernel)) (by decide +kernel)
theorem tw326 : Cond.laysFinal "ThievesPaid$Honest" "ThievesPaid$Thief" "payer" "I" ∈ TB := tb_of (List.mem_of_getElem? (i := 326) (by decide +kernel)) (by decide +kernel)
theorem tw327 : Cond.laysFinal "ThievesPaid$Honest" "ThievesPaid$Thief" "robbed" "I" ∈ TB := tb_of (List.mem_of_getElem? (i := 327) (by decide +kernel)) (by decide +kernel)
theorem tw328 : Cond.laysFinal "ThievesPaid$Honest" "ThievesPaid$Thief" "fee" "I" ∈ TB := tb_of (List.mem_of_getElem? (i := 328) (by decide +kernel)) (by decide +kernel)
theorem tw330 : Cond.classLink RX8 (284) "ThievesPaid$Master" ∈ TB := tb_of (List.mem_of_getElem? (i := 330) (by decide +kernel)) (by decide +kernel)
theorem tw331 : Cond.instantiable RX3 (3) ∈ TB := tb_of (List.mem_of_getElem? (i := 331) (by decide +kernel)) (by decide +kernel)
theorem tw332 : Cond.methodLink RX8 (286) yX3_init ∈ TB := tb_of (List.mem_of_getElem? (i := 332) (by decide +kernel)) (by decide +kernel)
theorem tw333 : Cond.instanceMethod yX3_init ∈ TB := tb_of (List.mem_of_getElem? (i := 333) (by decide +kernel)) (by decide +kernel)
theorem tw334 : Cond.code yX3_init prog_5_method_1_code (4) (Option.none : Option Jvm.ClassFile.FieldType) ∈ TB := tb_of (List.mem_of_getElem? (i := 334) (by decide +kernel)) (by decide +kernel)
theorem tw335 : Cond.methodLink RX3 (1) yX6_init ∈ TB := tb_of (List.mem_of_getElem? (i := 335) (by decide +kernel)) (by decide +kernel)
theorem tw336 : Cond.laysFinal "ThievesPaid$Master" "ThievesPaid$Thief" "payer" "I" ∈ TB := tb_of (List.mem_of_getElem? (i := 336) (by decide +kernel)) (by decide +kernel)
theorem tw337 : Cond.laysFinal "ThievesPaid$Master" "ThievesPaid$Thief" "robbed" "I" ∈ TB := tb_of (List.mem_of_getElem? (i := 337) (by decide +kernel)) (by decide +kernel)
theorem tw338 : Cond.laysFinal "ThievesPaid$Master" "ThievesPaid$Thief" "fee" "I" ∈ TB := tb_of (List.mem_of_getElem? (i := 338) (by decide +kernel)) (by decide +kernel)
theorem tw340 : Cond.methodLink RL (33) yX8_about ∈ TB := tb_of (List.mem_of_getElem? (i := 340) (by decide +kernel)) (by decide +kernel)
theorem tw341 : Cond.instanceMethod yX8_about ∈ TB := tb_of (List.mem_of_getElem? (i := 341) (by decide +kernel)) (by decide +kernel)
theorem tw342 : Cond.selects RX8 yX8_about yX8_about ∈ TB := tb_of (List.mem_of_getElem? (i := 342) (by decide +kernel)) (by decide +kernel)
theorem tw343 : Cond.code yX8_about prog_1_method_6_code (4) (Option.some Jvm.ClassFile.FieldType.int) ∈ TB := tb_of (List.mem_of_getElem? (i := 343) (by decide +kernel)) (by decide +kernel)
theorem tw344 : Cond.methodLink RX8 (133) yX8_isThief ∈ TB := tb_of (List.mem_of_getElem? (i := 344) (by decide +kernel)) (by decide +kernel)
theorem tw346 : Cond.instanceMethod yX8_isThief ∈ TB := tb_of (List.mem_of_getElem? (i := 346) (by decide +kernel)) (by decide +kernel)
theorem tw347 : Cond.code yX8_isThief prog_1_method_29_code (2) (Option.some Jvm.ClassFile.FieldType.boolean) ∈ TB := tb_of (List.mem_of_getElem? (i := 347) (by decide +kernel)) (by decide +kernel)
theorem tw348 : Cond.methodLink RX8 (137) yX7_kind ∈ TB := tb_of (List.mem_of_getElem? (i := 348) (by decide +kernel)) (by decide +kernel)
theorem tw349 : Cond.instanceMethod yX7_kind ∈ TB := tb_of (List.mem_of_getElem? (i := 349) (by decide +kernel)) (by decide +kernel)
theorem tw350 : Cond.selects RX7 yX7_kind yX7_kind ∈ TB := tb_of (List.mem_of_getElem? (i := 350) (by decide +kernel)) (by decide +kernel)
theorem tw351 : Cond.sameMethod "ThievesPaid$Thief" "ThievesPaid$Thief" "kind" "()I" ∈ TB := tb_of (List.mem_of_getElem? (i := 351) (by decide +kernel)) (by decide +kernel)
theorem tw352 : Cond.selects RX0 yX7_kind yX0_kind ∈ TB := tb_of (List.mem_of_getElem? (i := 352) (by decide +kernel)) (by decide +kernel)
theorem tw353 : Cond.instanceMethod yX0_kind ∈ TB := tb_of (List.mem_of_getElem? (i := 353) (by decide +kernel)) (by decide +kernel)
theorem tw354 : Cond.code yX0_kind prog_2_method_2_code (1) (Option.some Jvm.ClassFile.FieldType.int) ∈ TB := tb_of (List.mem_of_getElem? (i := 354) (by decide +kernel)) (by decide +kernel)
theorem tw355 : Cond.selects RX2 yX7_kind yX2_kind ∈ TB := tb_of (List.mem_of_getElem? (i := 355) (by decide +kernel)) (by decide +kernel)
theorem tw356 : Cond.instanceMethod yX2_kind ∈ TB := tb_of (List.mem_of_getElem? (i := 356) (by decide +kernel)) (by decide +kernel)
theorem tw357 : Cond.code yX2_kind prog_4_method_2_code (1) (Option.some Jvm.ClassFile.FieldType.int) ∈ TB := tb_of (List.mem_of_getElem? (i := 357) (by decide +kernel)) (by decide +kernel)
theorem tw358 : Cond.selects RX3 yX7_kind yX3_kind ∈ TB := tb_of (List.mem_of_getElem? (i := 358) (by decide +kernel)) (by decide +kernel)
theorem tw359 : Cond.instanceMethod yX3_kind ∈ TB := tb_of (List.mem_of_getElem? (i := 359) (by decide +kernel)) (by decide +kernel)
theorem tw360 : Cond.code yX3_kind prog_5_method_2_code (1) (Option.some Jvm.ClassFile.FieldType.int) ∈ TB := tb_of (List.mem_of_getElem? (i := 360) (by decide +kernel)) (by decide +kernel)
theorem tw361 : Cond.selects RX6 yX7_kind yX6_kind ∈ TB := tb_of (List.mem_of_getElem? (i := 361) (by decide +kernel)) (by decide +kernel)
theorem tw362 : Cond.instanceMethod yX6_kind ∈ TB := tb_of (List.mem_of_getElem? (i := 362) (by decide +kernel)) (by decide +kernel)
theorem tw363 : Cond.code yX6_kind prog_8_method_2_code (1) (Option.some Jvm.ClassFile.FieldType.int) ∈ TB := tb_of (List.mem_of_getElem? (i := 363) (by decide +kernel)) (by decide +kernel)
theorem tw364 : Cond.code yX7_kind prog_9_method_2_code (1) (Option.some Jvm.ClassFile.FieldType.int) ∈ TB := tb_of (List.mem_of_getElem? (i := 364) (by decide +kernel)) (by decide +kernel)
theorem tw365 : Cond.methodLink RX8 (149) yX8_asNumber ∈ TB := tb_of (List.mem_of_getElem? (i := 365) (by decide +kernel)) (by decide +kernel)
theorem tw366 : Cond.static yX8_asNumber ∈ TB := tb_of (List.mem_of_getElem? (i := 366) (by decide +kernel)) (by decide +kernel)
theorem tw367 : Cond.code yX8_asNumber prog_1_method_32_code (1) (Option.some Jvm.ClassFile.FieldType.int) ∈ TB := tb_of (List.mem_of_getElem? (i := 367) (by decide +kernel)) (by decide +kernel)
theorem tw368 : Cond.methodLink RL (38) yX8_as ∈ TB := tb_of (List.mem_of_getElem? (i := 368) (by decide +kernel)) (by decide +kernel)
theorem tw369 : Cond.instanceMethod yX8_as ∈ TB := tb_of (List.mem_of_getElem? (i := 369) (by decide +kernel)) (by decide +kernel)
theorem tw370 : Cond.selects RX8 yX8_as yX8_as ∈ TB := tb_of (List.mem_of_getElem? (i := 370) (by decide +kernel)) (by decide +kernel)
theorem tw371 : Cond.code yX8_as prog_1_method_7_code (3) (Option.some Jvm.ClassFile.FieldType.int) ∈ TB := tb_of (List.mem_of_getElem? (i := 371) (by decide +kernel)) (by decide +kernel)
theorem tw372 : Cond.methodLink RX8 (153) yX8_isOfKind ∈ TB := tb_of (List.mem_of_getElem? (i := 372) (by decide +kernel)) (by decide +kernel)
theorem tw373 : Cond.static yX8_isOfKind ∈ TB := tb_of (List.mem_of_getElem? (i := 373) (by decide +kernel)) (by decide +kernel)
theorem tw374 : Cond.code yX8_isOfKind prog_1_method_36_code (2) (Option.some Jvm.ClassFile.FieldType.boolean) ∈ TB := tb_of (List.mem_of_getElem? (i := 374) (by decide +kernel)) (by decide +kernel)
theorem tw375 : Cond.methodLink RL (42) yX8_paid ∈ TB := tb_of (List.mem_of_getElem? (i := 375) (by decide +kernel)) (by decide +kernel)
theorem tw376 : Cond.instanceMethod yX8_paid ∈ TB := tb_of (List.mem_of_getElem? (i := 376) (by decide +kernel)) (by decide +kernel)
theorem tw377 : Cond.selects RX8 yX8_paid yX8_paid ∈ TB := tb_of (List.mem_of_getElem? (i := 377) (by decide +kernel)) (by decide +kernel)
theorem tw378 : Cond.code yX8_paid prog_1_method_8_code (4) (Option.some Jvm.ClassFile.FieldType.int) ∈ TB := tb_of (List.mem_of_getElem? (i := 378) (by decide +kernel)) (by decide +kernel)
theorem tw379 : Cond.methodLink RL (47) yX8_tenths ∈ TB := tb_of (List.mem_of_getElem? (i := 379) (by decide +kernel)) (by decide +kernel)
theorem tw380 : Cond.instanceMethod yX8_tenths ∈ TB := tb_of (List.mem_of_getElem? (i := 380) (by decide +kernel)) (by decide +kernel)
theorem tw381 : Cond.selects RX8 yX8_tenths yX8_tenths ∈ TB := tb_of (List.mem_of_getElem? (i := 381) (by decide +kernel)) (by decide +kernel)
theorem tw382 : Cond.code yX8_tenths prog_1_method_9_code (4) (Option.some Jvm.ClassFile.FieldType.int) ∈ TB := tb_of (List.mem_of_getElem? (i := 382) (by decide +kernel)) (by decide +kernel)
theorem tw383 : Cond.methodLink RL (51) yX8_lock ∈ TB := tb_of (List.mem_of_getElem? (i := 383) (by decide +kernel)) (by decide +kernel)
theorem tw384 : Cond.instanceMethod yX8_lock ∈ TB := tb_of (List.mem_of_getElem? (i := 384) (by decide +kernel)) (by decide +kernel)
theorem tw385 : Cond.selects RX8 yX8_lock yX8_lock ∈ TB := tb_of (List.mem_of_getElem? (i := 385) (by decide +kernel)) (by decide +kernel)
theorem tw386 : Cond.code yX8_lock prog_1_method_10_code (4) (Option.some Jvm.ClassFile.FieldType.int) ∈ TB := tb_of (List.mem_of_getElem? (i := 386) (by decide +kernel)) (by decide +kernel)
theorem tw387 : Cond.methodLink RX8 (157) yX8_isHouse ∈ TB := tb_of (List.mem_of_getElem? (i := 387) (by decide +kernel)) (by decide +kernel)
theorem tw388 : Cond.methodLink RL (55) yX8_dog ∈ TB := tb_of (List.mem_of_getElem? (i := 388) (by decide +kernel)) (by decide +kernel)
theorem tw389 : Cond.instanceMethod yX8_dog ∈ TB := tb_of (List.mem_of_getElem? (i := 389) (by decide +kernel)) (by decide +kernel)
theorem tw390 : Cond.selects RX8 yX8_dog yX8_dog ∈ TB := tb_of (List.mem_of_getElem? (i := 390) (by decide +kernel)) (by decide +kernel)
theorem tw391 : Cond.code yX8_dog prog_1_method_11_code (4) (Option.some Jvm.ClassFile.FieldType.int) ∈ TB := tb_of (List.mem_of_getElem? (i := 391) (by decide +kernel)) (by decide +kernel)
theorem tw392 : Cond.methodLink RL (59) yX8_spoon ∈ TB := tb_of (List.mem_of_getElem? (i := 392) (by decide +kernel)) (by decide +kernel)
theorem tw393 : Cond.instanceMethod yX8_spoon ∈ TB := tb_of (List.mem_of_getElem? (i := 393) (by decide +kernel)) (by decide +kernel)
theorem tw394 : Cond.selects RX8 yX8_spoon yX8_spoon ∈ TB := tb_of (List.mem_of_getElem? (i := 394) (by decide +kernel)) (by decide +kernel)
theorem tw395 : Cond.code yX8_spoon prog_1_method_12_code (3) (Option.some Jvm.ClassFile.FieldType.int) ∈ TB := tb_of (List.mem_of_getElem? (i := 395) (by decide +kernel)) (by decide +kernel)
theorem tw396 : Cond.methodLink RL (63) yX8_silver ∈ TB := tb_of (List.mem_of_getElem? (i := 396) (by decide +kernel)) (by decide +kernel)
theorem tw397 : Cond.instanceMethod yX8_silver ∈ TB := tb_of (List.mem_of_getElem? (i := 397) (by decide +kernel)) (by decide +kernel)
theorem tw398 : Cond.selects RX8 yX8_silver yX8_silver ∈ TB := tb_of (List.mem_of_getElem? (i := 398) (by decide +kernel)) (by decide +kernel)
theorem tw399 : Cond.code yX8_silver prog_1_method_13_code (3) (Option.some Jvm.ClassFile.FieldType.int) ∈ TB := tb_of (List.mem_of_getElem? (i := 399) (by decide +kernel)) (by decide +kernel)
theorem tw400 : Cond.methodLink RX8 (172) yX8_isSpoon ∈ TB := tb_of (List.mem_of_getElem? (i := 400) (by decide +kernel)) (by decide +kernel)
theorem tw402 : Cond.instanceMethod yX8_isSpoon ∈ TB := tb_of (List.mem_of_getElem? (i := 402) (by decide +kernel)) (by decide +kernel)
theorem tw403 : Cond.code yX8_isSpoon prog_1_method_30_code (2) (Option.some Jvm.ClassFile.FieldType.boolean) ∈ TB := tb_of (List.mem_of_getElem? (i := 403) (by decide +kernel)) (by decide +kernel)
theorem tw404 : Cond.methodLink RL (67) yX8_worth ∈ TB := tb_of (List.mem_of_getElem? (i := 404) (by decide +kernel)) (by decide +kernel)
theorem tw405 : Cond.instanceMethod yX8_worth ∈ TB := tb_of (List.mem_of_getElem? (i := 405) (by decide +kernel)) (by decide +kernel)
theorem tw406 : Cond.selects RX8 yX8_worth yX8_worth ∈ TB := tb_of (List.mem_of_getElem? (i := 406) (by decide +kernel)) (by decide +kernel)
theorem tw407 : Cond.code yX8_worth prog_1_method_14_code (2) (Option.some Jvm.ClassFile.FieldType.int) ∈ TB := tb_of (List.mem_of_getElem? (i := 407) (by decide +kernel)) (by decide +kernel)
theorem tw408 : Cond.methodLink RX8 (175) yX8_worthIn ∈ TB := tb_of (List.mem_of_getElem? (i := 408) (by decide +kernel)) (by decide +kernel)
theorem tw410 : Cond.instanceMethod yX8_worthIn ∈ TB := tb_of (List.mem_of_getElem? (i := 410) (by decide +kernel)) (by decide +kernel)
theorem tw411 : Cond.code yX8_worthIn prog_1_method_40_code (5) (Option.some Jvm.ClassFile.FieldType.int) ∈ TB := tb_of (List.mem_of_getElem? (i := 411) (by decide +kernel)) (by decide +kernel)
theorem tw412 : Cond.methodLink RL (72) yX8_month ∈ TB := tb_of (List.mem_of_getElem? (i := 412) (by decide +kernel)) (by decide +kernel)
theorem tw413 : Cond.instanceMethod yX8_month ∈ TB := tb_of (List.mem_of_getElem? (i := 413) (by decide +kernel)) (by decide +kernel)
theorem tw414 : Cond.selects RX8 yX8_month yX8_month ∈ TB := tb_of (List.mem_of_getElem? (i := 414) (by decide +kernel)) (by decide +kernel)
theorem tw415 : Cond.code yX8_month prog_1_method_15_code (2) (Option.some Jvm.ClassFile.FieldType.int) ∈ TB := tb_of (List.mem_of_getElem? (i := 415) (by decide +kernel)) (by decide +kernel)
theorem tw416 : Cond.methodLink RX8 (185) yX8_monthWithout ∈ TB := tb_of (List.mem_of_getElem? (i := 416) (by decide +kernel)) (by decide +kernel)
theorem tw418 : Cond.instanceMethod yX8_monthWithout ∈ TB := tb_of (List.mem_of_getElem? (i := 418) (by decide +kernel)) (by decide +kernel)
theorem tw419 : Cond.code yX8_monthWithout prog_1_method_37_code (5) (Option.some Jvm.ClassFile.FieldType.int) ∈ TB := tb_of (List.mem_of_getElem? (i := 419) (by decide +kernel)) (by decide +kernel)
theorem tw420 : Cond.methodLink RX8 (238) yX8_visit ∈ TB := tb_of (List.mem_of_getElem? (i := 420) (by decide +kernel)) (by decide +kernel)
theorem tw422 : Cond.instanceMethod yX8_visit ∈ TB := tb_of (List.mem_of_getElem? (i := 422) (by decide +kernel)) (by decide +kernel)
theorem tw423 : Cond.code yX8_visit prog_1_method_38_code (9) (Option.some Jvm.ClassFile.FieldType.int) ∈ TB := tb_of (List.mem_of_getElem? (i := 423) (by decide +kernel)) (by decide +kernel)
theorem tw424 : Cond.methodLink RX8 (287) yX7_robs ∈ TB := tb_of (List.mem_of_getElem? (i := 424) (by decide +kernel)) (by decide +kernel)
theorem tw425 : Cond.instanceMethod yX7_robs ∈ TB := tb_of (List.mem_of_getElem? (i := 425) (by decide +kernel)) (by decide +kernel)
theorem tw426 : Cond.selects RX7 yX7_robs yX7_robs ∈ TB := tb_of (List.mem_of_getElem? (i := 426) (by decide +kernel)) (by decide +kernel)
theorem tw427 : Cond.sameMethod "ThievesPaid$Thief" "ThievesPaid$Thief" "robs" "(Z)I" ∈ TB := tb_of (List.mem_of_getElem? (i := 427) (by decide +kernel)) (by decide +kernel)
theorem tw428 : Cond.selects RX0 yX7_robs yX7_robs ∈ TB := tb_of (List.mem_of_getElem? (i := 428) (by decide +kernel)) (by decide +kernel)
theorem tw429 : Cond.selects RX2 yX7_robs yX7_robs ∈ TB := tb_of (List.mem_of_getElem? (i := 429) (by decide +kernel)) (by decide +kernel)
theorem tw430 : Cond.selects RX3 yX7_robs yX7_robs ∈ TB := tb_of (List.mem_of_getElem? (i := 430) (by decide +kernel)) (by decide +kernel)
theorem tw431 : Cond.selects RX6 yX7_robs yX7_robs ∈ TB := tb_of (List.mem_of_getElem? (i := 431) (by decide +kernel)) (by decide +kernel)
theorem tw432 : Cond.code yX7_robs prog_9_method_3_code (2) (Option.some Jvm.ClassFile.FieldType.int) ∈ TB := tb_of (List.mem_of_getElem? (i := 432) (by decide +kernel)) (by decide +kernel)
theorem tw433 : Cond.methodLink RX8 (290) yX7_isKeptOut ∈ TB := tb_of (List.mem_of_getElem? (i := 433) (by decide +kernel)) (by decide +kernel)
theorem tw434 : Cond.instanceMethod yX7_isKeptOut ∈ TB := tb_of (List.mem_of_getElem? (i := 434) (by decide +kernel)) (by decide +kernel)
theorem tw435 : Cond.selects RX7 yX7_isKeptOut yX7_isKeptOut ∈ TB := tb_of (List.mem_of_getElem? (i := 435) (by decide +kernel)) (by decide +kernel)
theorem tw436 : Cond.sameMethod "ThievesPaid$Thief" "ThievesPaid$Thief" "isKeptOut" "(ZI)Z" ∈ TB := tb_of (List.mem_of_getElem? (i := 436) (by decide +kernel)) (by decide +kernel)
theorem tw437 : Cond.selects RX0 yX7_isKeptOut yX7_isKeptOut ∈ TB := tb_of (List.mem_of_getElem? (i := 437) (by decide +kernel)) (by decide +kernel)
theorem tw438 : Cond.selects RX2 yX7_isKeptOut yX7_isKeptOut ∈ TB := tb_of (List.mem_of_getElem? (i := 438) (by decide +kernel)) (by decide +kernel)
theorem tw439 : Cond.selects RX3 yX7_isKeptOut yX3_isKeptOut ∈ TB := tb_of (List.mem_of_getElem? (i := 439) (by decide +kernel)) (by decide +kernel)
theorem tw440 : Cond.instanceMethod yX3_isKeptOut ∈ TB := tb_of (List.mem_of_getElem? (i := 440) (by decide +kernel)) (by decide +kernel)
theorem tw441 : Cond.code yX3_isKeptOut prog_5_method_3_code (3) (Option.some Jvm.ClassFile.FieldType.boolean) ∈ TB := tb_of (List.mem_of_getElem? (i := 441) (by decide +kernel)) (by decide +kernel)
theorem tw442 : Cond.selects RX6 yX7_isKeptOut yX7_isKeptOut ∈ TB := tb_of (List.mem_of_getElem? (i := 442) (by decide +kernel)) (by decide +kernel)
theorem tw443 : Cond.code yX7_isKeptOut prog_9_method_4_code (3) (Option.some Jvm.ClassFile.FieldType.boolean) ∈ TB := tb_of (List.mem_of_getElem? (i := 443) (by decide +kernel)) (by decide +kernel)
theorem tw444 : Cond.methodLink RX8 (294) yX7_mostTaken ∈ TB := tb_of (List.mem_of_getElem? (i := 444) (by decide +kernel)) (by decide +kernel)
theorem tw445 : Cond.instanceMethod yX7_mostTaken ∈ TB := tb_of (List.mem_of_getElem? (i := 445) (by decide +kernel)) (by decide +kernel)
theorem tw446 : Cond.selects RX7 yX7_mostTaken yX7_mostTaken ∈ TB := tb_of (List.mem_of_getElem? (i := 446) (by decide +kernel)) (by decide +kernel)
theorem tw447 : Cond.sameMethod "ThievesPaid$Thief" "ThievesPaid$Thief" "mostTaken" "()I" ∈ TB := tb_of (List.mem_of_getElem? (i := 447) (by decide +kernel)) (by decide +kernel)
theorem tw448 : Cond.selects RX0 yX7_mostTaken yX7_mostTaken ∈ TB := tb_of (List.mem_of_getElem? (i := 448) (by decide +kernel)) (by decide +kernel)
theorem tw449 : Cond.selects RX2 yX7_mostTaken yX2_mostTaken ∈ TB := tb_of (List.mem_of_getElem? (i := 449) (by decide +kernel)) (by decide +kernel)
theorem tw450 : Cond.instanceMethod yX2_mostTaken ∈ TB := tb_of (List.mem_of_getElem? (i := 450) (by decide +kernel)) (by decide +kernel)
theorem tw451 : Cond.code yX2_mostTaken prog_4_method_3_code (1) (Option.some Jvm.ClassFile.FieldType.int) ∈ TB := tb_of (List.mem_of_getElem? (i := 451) (by decide +kernel)) (by decide +kernel)
theorem tw452 : Cond.selects RX3 yX7_mostTaken yX6_mostTaken ∈ TB := tb_of (List.mem_of_getElem? (i := 452) (by decide +kernel)) (by decide +kernel)
theorem tw453 : Cond.instanceMethod yX6_mostTaken ∈ TB := tb_of (List.mem_of_getElem? (i := 453) (by decide +kernel)) (by decide +kernel)
theorem tw454 : Cond.code yX6_mostTaken prog_8_method_3_code (1) (Option.some Jvm.ClassFile.FieldType.int) ∈ TB := tb_of (List.mem_of_getElem? (i := 454) (by decide +kernel)) (by decide +kernel)
theorem tw455 : Cond.selects RX6 yX7_mostTaken yX6_mostTaken ∈ TB := tb_of (List.mem_of_getElem? (i := 455) (by decide +kernel)) (by decide +kernel)
theorem tw456 : Cond.code yX7_mostTaken prog_9_method_5_code (1) (Option.some Jvm.ClassFile.FieldType.int) ∈ TB := tb_of (List.mem_of_getElem? (i := 456) (by decide +kernel)) (by decide +kernel)
theorem tw457 : Cond.methodLink RX8 (297) yX8_picked ∈ TB := tb_of (List.mem_of_getElem? (i := 457) (by decide +kernel)) (by decide +kernel)
theorem tw459 : Cond.instanceMethod yX8_picked ∈ TB := tb_of (List.mem_of_getElem? (i := 459) (by decide +kernel)) (by decide +kernel)
theorem tw460 : Cond.code yX8_picked prog_1_method_39_code (6) (Option.some Jvm.ClassFile.FieldType.int) ∈ TB := tb_of (List.mem_of_getElem? (i := 460) (by decide +kernel)) (by decide +kernel)
theorem tw461 : Cond.methodLink RX8 (301) yX7_likesBetter ∈ TB := tb_of (List.mem_of_getElem? (i := 461) (by decide +kernel)) (by decide +kernel)
theorem tw462 : Cond.instanceMethod yX7_likesBetter ∈ TB := tb_of (List.mem_of_getElem? (i := 462) (by decide +kernel)) (by decide +kernel)
theorem tw463 : Cond.selects RX7 yX7_likesBetter yX7_likesBetter ∈ TB := tb_of (List.mem_of_getElem? (i := 463) (by decide +kernel)) (by decide +kernel)
theorem tw464 : Cond.sameMethod "ThievesPaid$Thief" "ThievesPaid$Thief" "likesBetter" "(II)Z" ∈ TB := tb_of (List.mem_of_getElem? (i := 464) (by decide +kernel)) (by decide +kernel)
theorem tw465 : Cond.selects RX0 yX7_likesBetter yX0_likesBetter ∈ TB := tb_of (List.mem_of_getElem? (i := 465) (by decide +kernel)) (by decide +kernel)
theorem tw466 : Cond.instanceMethod yX0_likesBetter ∈ TB := tb_of (List.mem_of_getElem? (i := 466) (by decide +kernel)) (by decide +kernel)
theorem tw467 : Cond.code yX0_likesBetter prog_2_method_3_code (3) (Option.some Jvm.ClassFile.FieldType.boolean) ∈ TB := tb_of (List.mem_of_getElem? (i := 467) (by decide +kernel)) (by decide +kernel)
theorem tw468 : Cond.selects RX2 yX7_likesBetter yX7_likesBetter ∈ TB := tb_of (List.mem_of_getElem? (i := 468) (by decide +kernel)) (by decide +kernel)
theorem tw469 : Cond.selects RX3 yX7_likesBetter yX7_likesBetter ∈ TB := tb_of (List.mem_of_getElem? (i := 469) (by decide +kernel)) (by decide +kernel)
theorem tw470 : Cond.selects RX6 yX7_likesBetter yX7_likesBetter ∈ TB := tb_of (List.mem_of_getElem? (i := 470) (by decide +kernel)) (by decide +kernel)
theorem tw471 : Cond.code yX7_likesBetter prog_9_method_6_code (3) (Option.some Jvm.ClassFile.FieldType.boolean) ∈ TB := tb_of (List.mem_of_getElem? (i := 471) (by decide +kernel)) (by decide +kernel)
theorem tw472 : Cond.methodLink RX8 (241) yX1_lapseLocks ∈ TB := tb_of (List.mem_of_getElem? (i := 472) (by decide +kernel)) (by decide +kernel)
theorem tw473 : Cond.instanceMethod yX1_lapseLocks ∈ TB := tb_of (List.mem_of_getElem? (i := 473) (by decide +kernel)) (by decide +kernel)
theorem tw474 : Cond.selects RX1 yX1_lapseLocks yX1_lapseLocks ∈ TB := tb_of (List.mem_of_getElem? (i := 474) (by decide +kernel)) (by decide +kernel)
theorem tw475 : Cond.code yX1_lapseLocks prog_3_method_3_code (2) (Option.none : Option Jvm.ClassFile.FieldType) ∈ TB := tb_of (List.mem_of_getElem? (i := 475) (by decide +kernel)) (by decide +kernel)
theorem tw476 : Cond.methodLink RX1 (38) Lib.Math.max.name ∈ TB := tb_of (List.mem_of_getElem? (i := 476) (by decide +kernel)) (by decide +kernel)
theorem tw477 : Cond.static Lib.Math.max.name ∈ TB := tb_of (List.mem_of_getElem? (i := 477) (by decide +kernel)) (by decide +kernel)
theorem tw478 : Cond.code Lib.Math.max.name prog_13_method_65_code (2) (Option.some Jvm.ClassFile.FieldType.int) ∈ TB := tb_of (List.mem_of_getElem? (i := 478) (by decide +kernel)) (by decide +kernel)
theorem tw479 : Cond.methodLink RL (76) yX8_where ∈ TB := tb_of (List.mem_of_getElem? (i := 479) (by decide +kernel)) (by decide +kernel)
theorem tw480 : Cond.instanceMethod yX8_where ∈ TB := tb_of (List.mem_of_getElem? (i := 480) (by decide +kernel)) (by decide +kernel)
theorem tw481 : Cond.selects RX8 yX8_where yX8_where ∈ TB := tb_of (List.mem_of_getElem? (i := 481) (by decide +kernel)) (by decide +kernel)
theorem tw482 : Cond.code yX8_where prog_1_method_16_code (4) (Option.some Jvm.ClassFile.FieldType.int) ∈ TB := tb_of (List.mem_of_getElem? (i := 482) (by decide +kernel)) (by decide +kernel)
theorem tw483 : Cond.methodLink RX8 (188) yX1_takeOver ∈ TB := tb_of (List.mem_of_getElem? (i := 483) (by decide +kernel)) (by decide +kernel)
theorem tw484 : Cond.instanceMethod yX1_takeOver ∈ TB := tb_of (List.mem_of_getElem? (i := 484) (by decide +kernel)) (by decide +kernel)
theorem tw485 : Cond.selects RX1 yX1_takeOver yX1_takeOver ∈ TB := tb_of (List.mem_of_getElem? (i := 485) (by decide +kernel)) (by decide +kernel)
theorem tw486 : Cond.code yX1_takeOver prog_3_method_2_code (3) (Option.none : Option Jvm.ClassFile.FieldType) ∈ TB := tb_of (List.mem_of_getElem? (i := 486) (by decide +kernel)) (by decide +kernel)
theorem tw487 : Cond.methodLink RL (80) yX8_chance ∈ TB := tb_of (List.mem_of_getElem? (i := 487) (by decide +kernel)) (by decide +kernel)
theorem tw488 : Cond.instanceMethod yX8_chance ∈ TB := tb_of (List.mem_of_getElem? (i := 488) (by decide +kernel)) (by decide +kernel)
theorem tw489 : Cond.selects RX8 yX8_chance yX8_chance ∈ TB := tb_of (List.mem_of_getElem? (i := 489) (by decide +kernel)) (by decide +kernel)
theorem tw490 : Cond.code yX8_chance prog_1_method_17_code (11) (Option.some Jvm.ClassFile.FieldType.long) ∈ TB := tb_of (List.mem_of_getElem? (i := 490) (by decide +kernel)) (by decide +kernel)
theorem tw491 : Cond.constantLong RX8 (192) (-101) ∈ TB := tb_of (List.mem_of_getElem? (i := 491) (by decide +kernel)) (by decide +kernel)
theorem tw492 : Cond.constantLong RX8 (194) (-102) ∈ TB := tb_of (List.mem_of_getElem? (i := 492) (by decide +kernel)) (by decide +kernel)
theorem tw493 : Cond.constantLong RX8 (196) (-103) ∈ TB := tb_of (List.mem_of_getElem? (i := 493) (by decide +kernel)) (by decide +kernel)
theorem tw494 : Cond.methodLink RX8 (198) yX8_spreadOdds ∈ TB := tb_of (List.mem_of_getElem? (i := 494) (by decide +kernel)) (by decide +kernel)
theorem tw496 : Cond.instanceMethod yX8_spreadOdds ∈ TB := tb_of (List.mem_of_getElem? (i := 496) (by decide +kernel)) (by decide +kernel)
theorem tw497 : Cond.code yX8_spreadOdds prog_1_method_45_code (7) (Option.some Jvm.ClassFile.FieldType.long) ∈ TB := tb_of (List.mem_of_getElem? (i := 497) (by decide +kernel)) (by decide +kernel)
theorem tw498 : Cond.methodLink RX8 (312) yX8_spreadBy ∈ TB := tb_of (List.mem_of_getElem? (i := 498) (by decide +kernel)) (by decide +kernel)
theorem tw500 : Cond.instanceMethod yX8_spreadBy ∈ TB := tb_of (List.mem_of_getElem? (i := 500) (by decide +kernel)) (by decide +kernel)
theorem tw501 : Cond.code yX8_spreadBy prog_1_method_46_code (9) (Option.none : Option Jvm.ClassFile.FieldType) ∈ TB := tb_of (List.mem_of_getElem? (i := 501) (by decide +kernel)) (by decide +kernel)
theorem tw502 : Cond.constantLong RX8 (316) (10) ∈ TB := tb_of (List.mem_of_getElem? (i := 502) (by decide +kernel)) (by decide +kernel)
theorem tw503 : Cond.methodLink RX8 (202) yX8_greatestDivisor ∈ TB := tb_of (List.mem_of_getElem? (i := 503) (by decide +kernel)) (by decide +kernel)
theorem tw504 : Cond.static yX8_greatestDivisor ∈ TB := tb_of (List.mem_of_getElem? (i := 504) (by decide +kernel)) (by decide +kernel)
theorem tw505 : Cond.code yX8_greatestDivisor prog_1_method_47_code (7) (Option.some Jvm.ClassFile.FieldType.long) ∈ TB := tb_of (List.mem_of_getElem? (i := 505) (by decide +kernel)) (by decide +kernel)
theorem tw506 : Cond.methodLink RL (85) yX8_whom ∈ TB := tb_of (List.mem_of_getElem? (i := 506) (by decide +kernel)) (by decide +kernel)
theorem tw507 : Cond.instanceMethod yX8_whom ∈ TB := tb_of (List.mem_of_getElem? (i := 507) (by decide +kernel)) (by decide +kernel)
theorem tw508 : Cond.selects RX8 yX8_whom yX8_whom ∈ TB := tb_of (List.mem_of_getElem? (i := 508) (by decide +kernel)) (by decide +kernel)
theorem tw509 : Cond.code yX8_whom prog_1_method_18_code (5) (Option.some Jvm.ClassFile.FieldType.int) ∈ TB := tb_of (List.mem_of_getElem? (i := 509) (by decide +kernel)) (by decide +kernel)
theorem tw510 : Cond.constant RX8 (206) (-100101) ∈ TB := tb_of (List.mem_of_getElem? (i := 510) (by decide +kernel)) (by decide +kernel)
theorem tw511 : Cond.constant RX8 (207) (-100102) ∈ TB := tb_of (List.mem_of_getElem? (i := 511) (by decide +kernel)) (by decide +kernel)
theorem tw512 : Cond.constant RX8 (208) (-100103) ∈ TB := tb_of (List.mem_of_getElem? (i := 512) (by decide +kernel)) (by decide +kernel)
theorem tw513 : Cond.methodLink RX8 (209) yX8_bestSet ∈ TB := tb_of (List.mem_of_getElem? (i := 513) (by decide +kernel)) (by decide +kernel)
theorem tw515 : Cond.instanceMethod yX8_bestSet ∈ TB := tb_of (List.mem_of_getElem? (i := 515) (by decide +kernel)) (by decide +kernel)
theorem tw516 : Cond.code yX8_bestSet prog_1_method_48_code (8) (Option.some Jvm.ClassFile.FieldType.int) ∈ TB := tb_of (List.mem_of_getElem? (i := 516) (by decide +kernel)) (by decide +kernel)
theorem tw517 : Cond.methodLink RX8 (318) yX8_couldBePaidBy ∈ TB := tb_of (List.mem_of_getElem? (i := 517) (by decide +kernel)) (by decide +kernel)
theorem tw519 : Cond.instanceMethod yX8_couldBePaidBy ∈ TB := tb_of (List.mem_of_getElem? (i := 519) (by decide +kernel)) (by decide +kernel)
theorem tw520 : Cond.code yX8_couldBePaidBy prog_1_method_49_code (4) (Option.some Jvm.ClassFile.FieldType.int) ∈ TB := tb_of (List.mem_of_getElem? (i := 520) (by decide +kernel)) (by decide +kernel)
theorem tw521 : Cond.methodLink RX8 (213) yX8_leftBy ∈ TB := tb_of (List.mem_of_getElem? (i := 521) (by decide +kernel)) (by decide +kernel)
theorem tw523 : Cond.instanceMethod yX8_leftBy ∈ TB := tb_of (List.mem_of_getElem? (i := 523) (by decide +kernel)) (by decide +kernel)
theorem tw524 : Cond.code yX8_leftBy prog_1_method_50_code (6) (Option.some Jvm.ClassFile.FieldType.int) ∈ TB := tb_of (List.mem_of_getElem? (i := 524) (by decide +kernel)) (by decide +kernel)
theorem tw525 : Cond.methodLink RX8 (321) yJ6_bitCount_0f7a4 ∈ TB := tb_of (List.mem_of_getElem? (i := 525) (by decide +kernel)) (by decide +kernel)
theorem tw526 : Cond.static yJ6_bitCount_0f7a4 ∈ TB := tb_of (List.mem_of_getElem? (i := 526) (by decide +kernel)) (by decide +kernel)
theorem tw527 : Cond.code yJ6_bitCount_0f7a4 prog_12_method_49_code (1) (Option.some Jvm.ClassFile.FieldType.int) ∈ TB := tb_of (List.mem_of_getElem? (i := 527) (by decide +kernel)) (by decide +kernel)
theorem tw528 : Cond.constant RJ6 (265) (1431655765) ∈ TB := tb_of (List.mem_of_getElem? (i := 528) (by decide +kernel)) (by decide +kernel)
theorem tw529 : Cond.constant RJ6 (266) (858993459) ∈ TB := tb_of (List.mem_of_getElem? (i := 529) (by decide +kernel)) (by decide +kernel)
theorem tw530 : Cond.constant RJ6 (267) (252645135) ∈ TB := tb_of (List.mem_of_getElem? (i := 530) (by decide +kernel)) (by decide +kernel)
theorem tw531 : Cond.methodLink RL (90) yX8_still ∈ TB := tb_of (List.mem_of_getElem? (i := 531) (by decide +kernel)) (by decide +kernel)
theorem tw532 : Cond.instanceMethod yX8_still ∈ TB := tb_of (List.mem_of_getElem? (i := 532) (by decide +kernel)) (by decide +kernel)
theorem tw533 : Cond.selects RX8 yX8_still yX8_still ∈ TB := tb_of (List.mem_of_getElem? (i := 533) (by decide +kernel)) (by decide +kernel)
theorem tw534 : Cond.code yX8_still prog_1_method_19_code (2) (Option.some Jvm.ClassFile.FieldType.int) ∈ TB := tb_of (List.mem_of_getElem? (i := 534) (by decide +kernel)) (by decide +kernel)
theorem tw535 : Cond.methodLink RL (94) yX8_seen ∈ TB := tb_of (List.mem_of_getElem? (i := 535) (by decide +kernel)) (by decide +kernel)
theorem tw536 : Cond.instanceMethod yX8_seen ∈ TB := tb_of (List.mem_of_getElem? (i := 536) (by decide +kernel)) (by decide +kernel)
theorem tw537 : Cond.selects RX8 yX8_seen yX8_seen ∈ TB := tb_of (List.mem_of_getElem? (i := 537) (by decide +kernel)) (by decide +kernel)
theorem tw538 : Cond.code yX8_seen prog_1_method_20_code (4) (Option.some Jvm.ClassFile.FieldType.int) ∈ TB := tb_of (List.mem_of_getElem? (i := 538) (by decide +kernel)) (by decide +kernel)
theorem tw539 : Cond.methodLink RL (98) yX8_who ∈ TB := tb_of (List.mem_of_getElem? (i := 539) (by decide +kernel)) (by decide +kernel)
theorem tw540 : Cond.instanceMethod yX8_who ∈ TB := tb_of (List.mem_of_getElem? (i := 540) (by decide +kernel)) (by decide +kernel)
theorem tw541 : Cond.selects RX8 yX8_who yX8_who ∈ TB := tb_of (List.mem_of_getElem? (i := 541) (by decide +kernel)) (by decide +kernel)
theorem tw542 : Cond.code yX8_who prog_1_method_21_code (3) (Option.some Jvm.ClassFile.FieldType.int) ∈ TB := tb_of (List.mem_of_getElem? (i := 542) (by decide +kernel)) (by decide +kernel)
theorem tw543 : Cond.methodLink RX8 (217) yX8_wouldBeAsSeen ∈ TB := tb_of (List.mem_of_getElem? (i := 543) (by decide +kernel)) (by decide +kernel)
theorem tw545 : Cond.instanceMethod yX8_wouldBeAsSeen ∈ TB := tb_of (List.mem_of_getElem? (i := 545) (by decide +kernel)) (by decide +kernel)
theorem tw546 : Cond.code yX8_wouldBeAsSeen prog_1_method_51_code (3) (Option.some Jvm.ClassFile.FieldType.boolean) ∈ TB := tb_of (List.mem_of_getElem? (i := 546) (by decide +kernel)) (by decide +kernel)
theorem tw547 : Cond.methodLink RL (102) yX8_owes ∈ TB := tb_of (List.mem_of_getElem? (i := 547) (by decide +kernel)) (by decide +kernel)
theorem tw548 : Cond.instanceMethod yX8_owes ∈ TB := tb_of (List.mem_of_getElem? (i := 548) (by decide +kernel)) (by decide +kernel)
end
section
theorem tw549 : Cond.selects RX8 yX8_owes yX8_owes ∈ TB := tb_of (List.mem_of_getElem? (i := 549) (by decide +kernel)) (by decide +kernel)
theorem tw550 : Cond.code yX8_owes prog_1_method_22_code (5) (Option.some Jvm.ClassFile.FieldType.int) ∈ TB := tb_of (List.mem_of_getElem? (i := 550) (by decide +kernel)) (by decide +kernel)
theorem tw551 : Cond.methodLink RL (106) yX8_fewest ∈ TB := tb_of (List.mem_of_getElem? (i := 551) (by decide +kernel)) (by decide +kernel)
theorem tw552 : Cond.instanceMethod yX8_fewest ∈ TB := tb_of (List.mem_of_getElem? (i := 552) (by decide +kernel)) (by decide +kernel)
theorem tw553 : Cond.selects RX8 yX8_fewest yX8_fewest ∈ TB := tb_of (List.mem_of_getElem? (i := 553) (by decide +kernel)) (by decide +kernel)
theorem tw554 : Cond.code yX8_fewest prog_1_method_23_code (2) (Option.some Jvm.ClassFile.FieldType.int) ∈ TB := tb_of (List.mem_of_getElem? (i := 554) (by decide +kernel)) (by decide +kernel)
theorem tw555 : Cond.methodLink RX8 (220) yX8_netAll ∈ TB := tb_of (List.mem_of_getElem? (i := 555) (by decide +kernel)) (by decide +kernel)
theorem tw557 : Cond.instanceMethod yX8_netAll ∈ TB := tb_of (List.mem_of_getElem? (i := 557) (by decide +kernel)) (by decide +kernel)
theorem tw558 : Cond.code yX8_netAll prog_1_method_52_code (2) (Option.none : Option Jvm.ClassFile.FieldType) ∈ TB := tb_of (List.mem_of_getElem? (i := 558) (by decide +kernel)) (by decide +kernel)
theorem tw559 : Cond.methodLink RX8 (223) yJ6_numberOfTrailingZeros_0f7a4 ∈ TB := tb_of (List.mem_of_getElem? (i := 559) (by decide +kernel)) (by decide +kernel)
theorem tw560 : Cond.static yJ6_numberOfTrailingZeros_0f7a4 ∈ TB := tb_of (List.mem_of_getElem? (i := 560) (by decide +kernel)) (by decide +kernel)
theorem tw561 : Cond.code yJ6_numberOfTrailingZeros_0f7a4 prog_12_method_48_code (2) (Option.some Jvm.ClassFile.FieldType.int) ∈ TB := tb_of (List.mem_of_getElem? (i := 561) (by decide +kernel)) (by decide +kernel)
theorem tw562 : Cond.constant RJ6 (264) (65536) ∈ TB := tb_of (List.mem_of_getElem? (i := 562) (by decide +kernel)) (by decide +kernel)
theorem tw563 : Cond.methodLink RX8 (229) yX8_mostGroupsWithOneLess ∈ TB := tb_of (List.mem_of_getElem? (i := 563) (by decide +kernel)) (by decide +kernel)
theorem tw565 : Cond.instanceMethod yX8_mostGroupsWithOneLess ∈ TB := tb_of (List.mem_of_getElem? (i := 565) (by decide +kernel)) (by decide +kernel)
theorem tw566 : Cond.code yX8_mostGroupsWithOneLess prog_1_method_53_code (4) (Option.some Jvm.ClassFile.FieldType.int) ∈ TB := tb_of (List.mem_of_getElem? (i := 566) (by decide +kernel)) (by decide +kernel)
theorem tw567 : Cond.methodLink RX8 (324) Lib.Math.max.name ∈ TB := tb_of (List.mem_of_getElem? (i := 567) (by decide +kernel)) (by decide +kernel)
theorem tw568 : Cond.methodLink RL (110) yX8_months ∈ TB := tb_of (List.mem_of_getElem? (i := 568) (by decide +kernel)) (by decide +kernel)
theorem tw569 : Cond.instanceMethod yX8_months ∈ TB := tb_of (List.mem_of_getElem? (i := 569) (by decide +kernel)) (by decide +kernel)
theorem tw570 : Cond.selects RX8 yX8_months yX8_months ∈ TB := tb_of (List.mem_of_getElem? (i := 570) (by decide +kernel)) (by decide +kernel)
theorem tw571 : Cond.code yX8_months prog_1_method_24_code (8) (Option.some Jvm.ClassFile.FieldType.int) ∈ TB := tb_of (List.mem_of_getElem? (i := 571) (by decide +kernel)) (by decide +kernel)
theorem tw572 : Cond.methodLink RX8 (232) yX8_nextSeed ∈ TB := tb_of (List.mem_of_getElem? (i := 572) (by decide +kernel)) (by decide +kernel)
theorem tw573 : Cond.static yX8_nextSeed ∈ TB := tb_of (List.mem_of_getElem? (i := 573) (by decide +kernel)) (by decide +kernel)
theorem tw574 : Cond.code yX8_nextSeed prog_1_method_43_code (1) (Option.some Jvm.ClassFile.FieldType.int) ∈ TB := tb_of (List.mem_of_getElem? (i := 574) (by decide +kernel)) (by decide +kernel)
theorem tw575 : Cond.constantLong RX8 (305) (1103515245) ∈ TB := tb_of (List.mem_of_getElem? (i := 575) (by decide +kernel)) (by decide +kernel)
theorem tw576 : Cond.constantLong RX8 (307) (12345) ∈ TB := tb_of (List.mem_of_getElem? (i := 576) (by decide +kernel)) (by decide +kernel)
theorem tw577 : Cond.constantLong RX8 (309) (2147483647) ∈ TB := tb_of (List.mem_of_getElem? (i := 577) (by decide +kernel)) (by decide +kernel)
theorem tw578 : Cond.methodLink RX8 (235) yX8_drawOfTen ∈ TB := tb_of (List.mem_of_getElem? (i := 578) (by decide +kernel)) (by decide +kernel)
theorem tw579 : Cond.static yX8_drawOfTen ∈ TB := tb_of (List.mem_of_getElem? (i := 579) (by decide +kernel)) (by decide +kernel)
theorem tw580 : Cond.code yX8_drawOfTen prog_1_method_44_code (1) (Option.some Jvm.ClassFile.FieldType.int) ∈ TB := tb_of (List.mem_of_getElem? (i := 580) (by decide +kernel)) (by decide +kernel)
theorem tw581 : Cond.constant RX8 (311) (65536) ∈ TB := tb_of (List.mem_of_getElem? (i := 581) (by decide +kernel)) (by decide +kernel)
theorem tw582 : Cond.methodLink RX8 (244) yX8_worthAtHome ∈ TB := tb_of (List.mem_of_getElem? (i := 582) (by decide +kernel)) (by decide +kernel)
theorem tw584 : Cond.instanceMethod yX8_worthAtHome ∈ TB := tb_of (List.mem_of_getElem? (i := 584) (by decide +kernel)) (by decide +kernel)
theorem tw585 : Cond.code yX8_worthAtHome prog_1_method_41_code (4) (Option.some Jvm.ClassFile.FieldType.int) ∈ TB := tb_of (List.mem_of_getElem? (i := 585) (by decide +kernel)) (by decide +kernel)
theorem tw586 : Cond.methodLink RL (114) yX8_image ∈ TB := tb_of (List.mem_of_getElem? (i := 586) (by decide +kernel)) (by decide +kernel)
theorem tw587 : Cond.instanceMethod yX8_image ∈ TB := tb_of (List.mem_of_getElem? (i := 587) (by decide +kernel)) (by decide +kernel)
theorem tw588 : Cond.selects RX8 yX8_image yX8_image ∈ TB := tb_of (List.mem_of_getElem? (i := 588) (by decide +kernel)) (by decide +kernel)
theorem tw589 : Cond.code yX8_image prog_1_method_25_code (1) (Option.some Jvm.ClassFile.FieldType.int) ∈ TB := tb_of (List.mem_of_getElem? (i := 589) (by decide +kernel)) (by decide +kernel)
theorem tw590 : Cond.methodLink RL (118) yX8_restore ∈ TB := tb_of (List.mem_of_getElem? (i := 590) (by decide +kernel)) (by decide +kernel)
theorem tw591 : Cond.instanceMethod yX8_restore ∈ TB := tb_of (List.mem_of_getElem? (i := 591) (by decide +kernel)) (by decide +kernel)
theorem tw592 : Cond.selects RX8 yX8_restore yX8_restore ∈ TB := tb_of (List.mem_of_getElem? (i := 592) (by decide +kernel)) (by decide +kernel)
theorem tw593 : Cond.code yX8_restore prog_1_method_26_code (1) (Option.some Jvm.ClassFile.FieldType.int) ∈ TB := tb_of (List.mem_of_getElem? (i := 593) (by decide +kernel)) (by decide +kernel)
theorem tw594 : Cond.methodLink RL (122) yX8_count ∈ TB := tb_of (List.mem_of_getElem? (i := 594) (by decide +kernel)) (by decide +kernel)
theorem tw595 : Cond.instanceMethod yX8_count ∈ TB := tb_of (List.mem_of_getElem? (i := 595) (by decide +kernel)) (by decide +kernel)
theorem tw596 : Cond.selects RX8 yX8_count yX8_count ∈ TB := tb_of (List.mem_of_getElem? (i := 596) (by decide +kernel)) (by decide +kernel)
theorem tw597 : Cond.code yX8_count prog_1_method_27_code (2) (Option.some Jvm.ClassFile.FieldType.int) ∈ TB := tb_of (List.mem_of_getElem? (i := 597) (by decide +kernel)) (by decide +kernel)
theorem tw598 : Cond.methodLink RX8 (248) yX8_spoonsAway ∈ TB := tb_of (List.mem_of_getElem? (i := 598) (by decide +kernel)) (by decide +kernel)
theorem tw600 : Cond.instanceMethod yX8_spoonsAway ∈ TB := tb_of (List.mem_of_getElem? (i := 600) (by decide +kernel)) (by decide +kernel)
theorem tw601 : Cond.code yX8_spoonsAway prog_1_method_42_code (3) (Option.some Jvm.ClassFile.FieldType.int) ∈ TB := tb_of (List.mem_of_getElem? (i := 601) (by decide +kernel)) (by decide +kernel)
theorem tw602 : Cond.methodLink RL (126) yX8_digest ∈ TB := tb_of (List.mem_of_getElem? (i := 602) (by decide +kernel)) (by decide +kernel)
theorem tw603 : Cond.instanceMethod yX8_digest ∈ TB := tb_of (List.mem_of_getElem? (i := 603) (by decide +kernel)) (by decide +kernel)
theorem tw604 : Cond.selects RX8 yX8_digest yX8_digest ∈ TB := tb_of (List.mem_of_getElem? (i := 604) (by decide +kernel)) (by decide +kernel)
theorem tw605 : Cond.code yX8_digest prog_1_method_28_code (4) (Option.some Jvm.ClassFile.FieldType.long) ∈ TB := tb_of (List.mem_of_getElem? (i := 605) (by decide +kernel)) (by decide +kernel)
theorem tw606 : Cond.constantLong RX8 (251) (673) ∈ TB := tb_of (List.mem_of_getElem? (i := 606) (by decide +kernel)) (by decide +kernel)
theorem tw607 : Cond.methodLink RX8 (253) yX8_withThieves ∈ TB := tb_of (List.mem_of_getElem? (i := 607) (by decide +kernel)) (by decide +kernel)
theorem tw609 : Cond.instanceMethod yX8_withThieves ∈ TB := tb_of (List.mem_of_getElem? (i := 609) (by decide +kernel)) (by decide +kernel)
theorem tw610 : Cond.code yX8_withThieves prog_1_method_55_code (7) (Option.some Jvm.ClassFile.FieldType.long) ∈ TB := tb_of (List.mem_of_getElem? (i := 610) (by decide +kernel)) (by decide +kernel)
theorem tw611 : Cond.methodLink RX8 (331) yX8_about ∈ TB := tb_of (List.mem_of_getElem? (i := 611) (by decide +kernel)) (by decide +kernel)
theorem tw612 : Cond.methodLink RX8 (266) yX8_with ∈ TB := tb_of (List.mem_of_getElem? (i := 612) (by decide +kernel)) (by decide +kernel)
theorem tw613 : Cond.static yX8_with ∈ TB := tb_of (List.mem_of_getElem? (i := 613) (by decide +kernel)) (by decide +kernel)
theorem tw614 : Cond.code yX8_with prog_1_method_54_code (4) (Option.some Jvm.ClassFile.FieldType.long) ∈ TB := tb_of (List.mem_of_getElem? (i := 614) (by decide +kernel)) (by decide +kernel)
theorem tw615 : Cond.constantLong RX8 (329) (31) ∈ TB := tb_of (List.mem_of_getElem? (i := 615) (by decide +kernel)) (by decide +kernel)
theorem tw616 : Cond.methodLink RX8 (257) yX8_withHouses ∈ TB := tb_of (List.mem_of_getElem? (i := 616) (by decide +kernel)) (by decide +kernel)
theorem tw618 : Cond.instanceMethod yX8_withHouses ∈ TB := tb_of (List.mem_of_getElem? (i := 618) (by decide +kernel)) (by decide +kernel)
theorem tw619 : Cond.code yX8_withHouses prog_1_method_56_code (6) (Option.some Jvm.ClassFile.FieldType.long) ∈ TB := tb_of (List.mem_of_getElem? (i := 619) (by decide +kernel)) (by decide +kernel)
theorem tw620 : Cond.methodLink RX8 (260) yX8_withSpoons ∈ TB := tb_of (List.mem_of_getElem? (i := 620) (by decide +kernel)) (by decide +kernel)
theorem tw622 : Cond.instanceMethod yX8_withSpoons ∈ TB := tb_of (List.mem_of_getElem? (i := 622) (by decide +kernel)) (by decide +kernel)
theorem tw623 : Cond.code yX8_withSpoons prog_1_method_57_code (7) (Option.some Jvm.ClassFile.FieldType.long) ∈ TB := tb_of (List.mem_of_getElem? (i := 623) (by decide +kernel)) (by decide +kernel)
theorem tw624 : Cond.methodLink RX8 (334) yX8_silver ∈ TB := tb_of (List.mem_of_getElem? (i := 624) (by decide +kernel)) (by decide +kernel)
theorem tw625 : Cond.methodLink RX8 (263) yX8_fewest ∈ TB := tb_of (List.mem_of_getElem? (i := 625) (by decide +kernel)) (by decide +kernel)
theorem tw626 : Cond.methodLink RX8 (269) yX8_withOutlook ∈ TB := tb_of (List.mem_of_getElem? (i := 626) (by decide +kernel)) (by decide +kernel)
theorem tw628 : Cond.instanceMethod yX8_withOutlook ∈ TB := tb_of (List.mem_of_getElem? (i := 628) (by decide +kernel)) (by decide +kernel)
theorem tw629 : Cond.code yX8_withOutlook prog_1_method_58_code (7) (Option.some Jvm.ClassFile.FieldType.long) ∈ TB := tb_of (List.mem_of_getElem? (i := 629) (by decide +kernel)) (by decide +kernel)
theorem tw630 : Cond.methodLink RX8 (337) yX8_still ∈ TB := tb_of (List.mem_of_getElem? (i := 630) (by decide +kernel)) (by decide +kernel)
theorem tw631 : Cond.methodLink RX8 (340) yX8_who ∈ TB := tb_of (List.mem_of_getElem? (i := 631) (by decide +kernel)) (by decide +kernel)
theorem tw632 : Cond.methodLink RX8 (272) yX8_count ∈ TB := tb_of (List.mem_of_getElem? (i := 632) (by decide +kernel)) (by decide +kernel)
theorem tw633 : Cond.classLink RL (10) "ThievesPaidModel" ∈ TB := tb_of (List.mem_of_getElem? (i := 633) (by decide +kernel)) (by decide +kernel)
theorem tw634 : Cond.instantiable RX9 (32) ∈ TB := tb_of (List.mem_of_getElem? (i := 634) (by decide +kernel)) (by decide +kernel)
theorem tw635 : Cond.methodLink RL (12) yX9_init ∈ TB := tb_of (List.mem_of_getElem? (i := 635) (by decide +kernel)) (by decide +kernel)
theorem tw636 : Cond.instanceMethod yX9_init ∈ TB := tb_of (List.mem_of_getElem? (i := 636) (by decide +kernel)) (by decide +kernel)
theorem tw637 : Cond.code yX9_init prog_11_method_1_code (1) (Option.none : Option Jvm.ClassFile.FieldType) ∈ TB := tb_of (List.mem_of_getElem? (i := 637) (by decide +kernel)) (by decide +kernel)
theorem tw638 : Cond.methodLink RX9 (1) Lib.objectInit ∈ TB := tb_of (List.mem_of_getElem? (i := 638) (by decide +kernel)) (by decide +kernel)
theorem tw639 : Cond.fieldLink RX9 (7) "ThievesPaidModel" "page" "[I" ∈ TB := tb_of (List.mem_of_getElem? (i := 639) (by decide +kernel)) (by decide +kernel)
theorem tw640 : Cond.fieldLink RX9 (59) "ThievesPaidModel" "pageMany" "I" ∈ TB := tb_of (List.mem_of_getElem? (i := 640) (by decide +kernel)) (by decide +kernel)
theorem tw641 : Cond.fieldLink RX9 (13) "ThievesPaidModel" "readRows" "[I" ∈ TB := tb_of (List.mem_of_getElem? (i := 641) (by decide +kernel)) (by decide +kernel)
theorem tw642 : Cond.fieldLink RX9 (62) "ThievesPaidModel" "readMany" "I" ∈ TB := tb_of (List.mem_of_getElem? (i := 642) (by decide +kernel)) (by decide +kernel)
theorem tw643 : Cond.fieldLink RX9 (65) "ThievesPaidModel" "state" "I" ∈ TB := tb_of (List.mem_of_getElem? (i := 643) (by decide +kernel)) (by decide +kernel)
theorem tw644 : Cond.fieldLink RX9 (91) "ThievesPaidModel" "thieves" "I" ∈ TB := tb_of (List.mem_of_getElem? (i := 644) (by decide +kernel)) (by decide +kernel)
theorem tw645 : Cond.fieldLink RX9 (97) "ThievesPaidModel" "contractsRead" "I" ∈ TB := tb_of (List.mem_of_getElem? (i := 645) (by decide +kernel)) (by decide +kernel)
theorem tw646 : Cond.fieldLink RX9 (16) "ThievesPaidModel" "rows" "[I" ∈ TB := tb_of (List.mem_of_getElem? (i := 646) (by decide +kernel)) (by decide +kernel)
theorem tw647 : Cond.fieldLink RX9 (94) "ThievesPaidModel" "paidBits" "I" ∈ TB := tb_of (List.mem_of_getElem? (i := 647) (by decide +kernel)) (by decide +kernel)
theorem tw648 : Cond.fieldLink RX9 (19) "ThievesPaidModel" "comes" "[I" ∈ TB := tb_of (List.mem_of_getElem? (i := 648) (by decide +kernel)) (by decide +kernel)
theorem tw649 : Cond.fieldLink RX9 (113) "ThievesPaidModel" "spoons" "I" ∈ TB := tb_of (List.mem_of_getElem? (i := 649) (by decide +kernel)) (by decide +kernel)
theorem tw650 : Cond.fieldLink RX9 (157) "ThievesPaidModel" "gone" "I" ∈ TB := tb_of (List.mem_of_getElem? (i := 650) (by decide +kernel)) (by decide +kernel)
theorem tw651 : Cond.fieldLink RX9 (160) "ThievesPaidModel" "fees" "I" ∈ TB := tb_of (List.mem_of_getElem? (i := 651) (by decide +kernel)) (by decide +kernel)
theorem tw652 : Cond.fieldLink RX9 (119) "ThievesPaidModel" "dogs" "I" ∈ TB := tb_of (List.mem_of_getElem? (i := 652) (by decide +kernel)) (by decide +kernel)
theorem tw653 : Cond.fieldLink RX9 (22) "ThievesPaidModel" "locks" "[I" ∈ TB := tb_of (List.mem_of_getElem? (i := 653) (by decide +kernel)) (by decide +kernel)
theorem tw654 : Cond.fieldLink RX9 (25) "ThievesPaidModel" "spoonRows" "[I" ∈ TB := tb_of (List.mem_of_getElem? (i := 654) (by decide +kernel)) (by decide +kernel)
theorem tw655 : Cond.fieldLink RX9 (28) "ThievesPaidModel" "there" "[I" ∈ TB := tb_of (List.mem_of_getElem? (i := 655) (by decide +kernel)) (by decide +kernel)
theorem tw656 : Cond.fieldLink RX9 (31) "ThievesPaidModel" "shut" "[I" ∈ TB := tb_of (List.mem_of_getElem? (i := 656) (by decide +kernel)) (by decide +kernel)
theorem tw657 : Cond.fieldLink RX9 (34) "ThievesPaidModel" "likely" "[J" ∈ TB := tb_of (List.mem_of_getElem? (i := 657) (by decide +kernel)) (by decide +kernel)
theorem tw658 : Cond.fieldLink RX9 (38) "ThievesPaidModel" "groups" "[I" ∈ TB := tb_of (List.mem_of_getElem? (i := 658) (by decide +kernel)) (by decide +kernel)
theorem tw659 : Cond.fieldLink RX9 (41) "ThievesPaidModel" "balances" "[I" ∈ TB := tb_of (List.mem_of_getElem? (i := 659) (by decide +kernel)) (by decide +kernel)
theorem tw660 : Cond.fieldLink RX9 (213) "ThievesPaidModel" "seedNow" "I" ∈ TB := tb_of (List.mem_of_getElem? (i := 660) (by decide +kernel)) (by decide +kernel)
theorem tw661 : Cond.fieldLink RX9 (53) "ThievesPaidModel" "keptRead" "I" ∈ TB := tb_of (List.mem_of_getElem? (i := 661) (by decide +kernel)) (by decide +kernel)
theorem tw662 : Cond.fieldLink RX9 (228) "ThievesPaidModel" "keptSpoons" "I" ∈ TB := tb_of (List.mem_of_getElem? (i := 662) (by decide +kernel)) (by decide +kernel)
theorem tw663 : Cond.fieldLink RX9 (231) "ThievesPaidModel" "keptGone" "I" ∈ TB := tb_of (List.mem_of_getElem? (i := 663) (by decide +kernel)) (by decide +kernel)
theorem tw664 : Cond.fieldLink RX9 (234) "ThievesPaidModel" "keptFees" "I" ∈ TB := tb_of (List.mem_of_getElem? (i := 664) (by decide +kernel)) (by decide +kernel)
theorem tw665 : Cond.fieldLink RX9 (237) "ThievesPaidModel" "keptDogs" "I" ∈ TB := tb_of (List.mem_of_getElem? (i := 665) (by decide +kernel)) (by decide +kernel)
theorem tw666 : Cond.fieldLink RX9 (240) "ThievesPaidModel" "keptPaid" "I" ∈ TB := tb_of (List.mem_of_getElem? (i := 666) (by decide +kernel)) (by decide +kernel)
theorem tw667 : Cond.fieldLink RX9 (44) "ThievesPaidModel" "keptLocks" "[I" ∈ TB := tb_of (List.mem_of_getElem? (i := 667) (by decide +kernel)) (by decide +kernel)
theorem tw668 : Cond.fieldLink RX9 (47) "ThievesPaidModel" "keptComes" "[I" ∈ TB := tb_of (List.mem_of_getElem? (i := 668) (by decide +kernel)) (by decide +kernel)
theorem tw669 : Cond.fieldLink RX9 (50) "ThievesPaidModel" "keptRows" "[I" ∈ TB := tb_of (List.mem_of_getElem? (i := 669) (by decide +kernel)) (by decide +kernel)
theorem tw670 : Cond.fieldLink RX9 (248) "ThievesPaidModel" "hash" "J" ∈ TB := tb_of (List.mem_of_getElem? (i := 670) (by decide +kernel)) (by decide +kernel)
theorem tw671 : Cond.laysFinal "ThievesPaidModel" "ThievesPaidModel" "page" "[I" ∈ TB := tb_of (List.mem_of_getElem? (i := 671) (by decide +kernel)) (by decide +kernel)
theorem tw673 : Cond.lays "ThievesPaidModel" "ThievesPaidModel" "pageMany" "I" ∈ TB := tb_of (List.mem_of_getElem? (i := 673) (by decide +kernel)) (by decide +kernel)
theorem tw675 : Cond.laysFinal "ThievesPaidModel" "ThievesPaidModel" "readRows" "[I" ∈ TB := tb_of (List.mem_of_getElem? (i := 675) (by decide +kernel)) (by decide +kernel)
theorem tw677 : Cond.lays "ThievesPaidModel" "ThievesPaidModel" "readMany" "I" ∈ TB := tb_of (List.mem_of_getElem? (i := 677) (by decide +kernel)) (by decide +kernel)
theorem tw679 : Cond.lays "ThievesPaidModel" "ThievesPaidModel" "state" "I" ∈ TB := tb_of (List.mem_of_getElem? (i := 679) (by decide +kernel)) (by decide +kernel)
theorem tw681 : Cond.lays "ThievesPaidModel" "ThievesPaidModel" "thieves" "I" ∈ TB := tb_of (List.mem_of_getElem? (i := 681) (by decide +kernel)) (by decide +kernel)
theorem tw683 : Cond.lays "ThievesPaidModel" "ThievesPaidModel" "contractsRead" "I" ∈ TB := tb_of (List.mem_of_getElem? (i := 683) (by decide +kernel)) (by decide +kernel)
theorem tw685 : Cond.laysFinal "ThievesPaidModel" "ThievesPaidModel" "rows" "[I" ∈ TB := tb_of (List.mem_of_getElem? (i := 685) (by decide +kernel)) (by decide +kernel)
theorem tw687 : Cond.lays "ThievesPaidModel" "ThievesPaidModel" "paidBits" "I" ∈ TB := tb_of (List.mem_of_getElem? (i := 687) (by decide +kernel)) (by decide +kernel)
theorem tw689 : Cond.laysFinal "ThievesPaidModel" "ThievesPaidModel" "comes" "[I" ∈ TB := tb_of (List.mem_of_getElem? (i := 689) (by decide +kernel)) (by decide +kernel)
theorem tw691 : Cond.lays "ThievesPaidModel" "ThievesPaidModel" "spoons" "I" ∈ TB := tb_of (List.mem_of_getElem? (i := 691) (by decide +kernel)) (by decide +kernel)
theorem tw693 : Cond.lays "ThievesPaidModel" "ThievesPaidModel" "gone" "I" ∈ TB := tb_of (List.mem_of_getElem? (i := 693) (by decide +kernel)) (by decide +kernel)
theorem tw695 : Cond.lays "ThievesPaidModel" "ThievesPaidModel" "fees" "I" ∈ TB := tb_of (List.mem_of_getElem? (i := 695) (by decide +kernel)) (by decide +kernel)
theorem tw697 : Cond.lays "ThievesPaidModel" "ThievesPaidModel" "dogs" "I" ∈ TB := tb_of (List.mem_of_getElem? (i := 697) (by decide +kernel)) (by decide +kernel)
theorem tw699 : Cond.laysFinal "ThievesPaidModel" "ThievesPaidModel" "locks" "[I" ∈ TB := tb_of (List.mem_of_getElem? (i := 699) (by decide +kernel)) (by decide +kernel)
theorem tw701 : Cond.laysFinal "ThievesPaidModel" "ThievesPaidModel" "spoonRows" "[I" ∈ TB := tb_of (List.mem_of_getElem? (i := 701) (by decide +kernel)) (by decide +kernel)
theorem tw703 : Cond.laysFinal "ThievesPaidModel" "ThievesPaidModel" "there" "[I" ∈ TB := tb_of (List.mem_of_getElem? (i := 703) (by decide +kernel)) (by decide +kernel)
theorem tw705 : Cond.laysFinal "ThievesPaidModel" "ThievesPaidModel" "shut" "[I" ∈ TB := tb_of (List.mem_of_getElem? (i := 705) (by decide +kernel)) (by decide +kernel)
theorem tw707 : Cond.laysFinal "ThievesPaidModel" "ThievesPaidModel" "likely" "[J" ∈ TB := tb_of (List.mem_of_getElem? (i := 707) (by decide +kernel)) (by decide +kernel)
theorem tw709 : Cond.laysFinal "ThievesPaidModel" "ThievesPaidModel" "groups" "[I" ∈ TB := tb_of (List.mem_of_getElem? (i := 709) (by decide +kernel)) (by decide +kernel)
theorem tw711 : Cond.laysFinal "ThievesPaidModel" "ThievesPaidModel" "balances" "[I" ∈ TB := tb_of (List.mem_of_getElem? (i := 711) (by decide +kernel)) (by decide +kernel)
theorem tw713 : Cond.lays "ThievesPaidModel" "ThievesPaidModel" "seedNow" "I" ∈ TB := tb_of (List.mem_of_getElem? (i := 713) (by decide +kernel)) (by decide +kernel)
theorem tw715 : Cond.lays "ThievesPaidModel" "ThievesPaidModel" "keptRead" "I" ∈ TB := tb_of (List.mem_of_getElem? (i := 715) (by decide +kernel)) (by decide +kernel)
theorem tw717 : Cond.lays "ThievesPaidModel" "ThievesPaidModel" "keptSpoons" "I" ∈ TB := tb_of (List.mem_of_getElem? (i := 717) (by decide +kernel)) (by decide +kernel)
theorem tw719 : Cond.lays "ThievesPaidModel" "ThievesPaidModel" "keptGone" "I" ∈ TB := tb_of (List.mem_of_getElem? (i := 719) (by decide +kernel)) (by decide +kernel)
theorem tw721 : Cond.lays "ThievesPaidModel" "ThievesPaidModel" "keptFees" "I" ∈ TB := tb_of (List.mem_of_getElem? (i := 721) (by decide +kernel)) (by decide +kernel)
theorem tw723 : Cond.lays "ThievesPaidModel" "ThievesPaidModel" "keptDogs" "I" ∈ TB := tb_of (List.mem_of_getElem? (i := 723) (by decide +kernel)) (by decide +kernel)
theorem tw725 : Cond.lays "ThievesPaidModel" "ThievesPaidModel" "keptPaid" "I" ∈ TB := tb_of (List.mem_of_getElem? (i := 725) (by decide +kernel)) (by decide +kernel)
theorem tw727 : Cond.laysFinal "ThievesPaidModel" "ThievesPaidModel" "keptLocks" "[I" ∈ TB := tb_of (List.mem_of_getElem? (i := 727) (by decide +kernel)) (by decide +kernel)
theorem tw729 : Cond.laysFinal "ThievesPaidModel" "ThievesPaidModel" "keptComes" "[I" ∈ TB := tb_of (List.mem_of_getElem? (i := 729) (by decide +kernel)) (by decide +kernel)
theorem tw731 : Cond.laysFinal "ThievesPaidModel" "ThievesPaidModel" "keptRows" "[I" ∈ TB := tb_of (List.mem_of_getElem? (i := 731) (by decide +kernel)) (by decide +kernel)
theorem tw733 : Cond.lays "ThievesPaidModel" "ThievesPaidModel" "hash" "J" ∈ TB := tb_of (List.mem_of_getElem? (i := 733) (by decide +kernel)) (by decide +kernel)
theorem tw736 : Cond.methodLink RL (19) yX9_letters ∈ TB := tb_of (List.mem_of_getElem? (i := 736) (by decide +kernel)) (by decide +kernel)
theorem tw737 : Cond.instanceMethod yX9_letters ∈ TB := tb_of (List.mem_of_getElem? (i := 737) (by decide +kernel)) (by decide +kernel)
theorem tw738 : Cond.selects RX9 yX9_letters yX9_letters ∈ TB := tb_of (List.mem_of_getElem? (i := 738) (by decide +kernel)) (by decide +kernel)
theorem tw739 : Cond.code yX9_letters prog_11_method_3_code (9) (Option.some Jvm.ClassFile.FieldType.int) ∈ TB := tb_of (List.mem_of_getElem? (i := 739) (by decide +kernel)) (by decide +kernel)
theorem tw740 : Cond.constantLong RX9 (57) (255) ∈ TB := tb_of (List.mem_of_getElem? (i := 740) (by decide +kernel)) (by decide +kernel)
theorem tw741 : Cond.methodLink RL (24) yX9_blank ∈ TB := tb_of (List.mem_of_getElem? (i := 741) (by decide +kernel)) (by decide +kernel)
theorem tw742 : Cond.instanceMethod yX9_blank ∈ TB := tb_of (List.mem_of_getElem? (i := 742) (by decide +kernel)) (by decide +kernel)
theorem tw743 : Cond.selects RX9 yX9_blank yX9_blank ∈ TB := tb_of (List.mem_of_getElem? (i := 743) (by decide +kernel)) (by decide +kernel)
theorem tw744 : Cond.code yX9_blank prog_11_method_4_code (2) (Option.some Jvm.ClassFile.FieldType.int) ∈ TB := tb_of (List.mem_of_getElem? (i := 744) (by decide +kernel)) (by decide +kernel)
theorem tw745 : Cond.methodLink RL (28) yX9_fault ∈ TB := tb_of (List.mem_of_getElem? (i := 745) (by decide +kernel)) (by decide +kernel)
theorem tw746 : Cond.instanceMethod yX9_fault ∈ TB := tb_of (List.mem_of_getElem? (i := 746) (by decide +kernel)) (by decide +kernel)
theorem tw747 : Cond.selects RX9 yX9_fault yX9_fault ∈ TB := tb_of (List.mem_of_getElem? (i := 747) (by decide +kernel)) (by decide +kernel)
theorem tw748 : Cond.code yX9_fault prog_11_method_9_code (1) (Option.some Jvm.ClassFile.FieldType.int) ∈ TB := tb_of (List.mem_of_getElem? (i := 748) (by decide +kernel)) (by decide +kernel)
theorem tw749 : Cond.methodLink RX9 (87) yX9_faultOf ∈ TB := tb_of (List.mem_of_getElem? (i := 749) (by decide +kernel)) (by decide +kernel)
theorem tw751 : Cond.instanceMethod yX9_faultOf ∈ TB := tb_of (List.mem_of_getElem? (i := 751) (by decide +kernel)) (by decide +kernel)
theorem tw752 : Cond.code yX9_faultOf prog_11_method_8_code (2) (Option.some Jvm.ClassFile.FieldType.int) ∈ TB := tb_of (List.mem_of_getElem? (i := 752) (by decide +kernel)) (by decide +kernel)
theorem tw753 : Cond.methodLink RX9 (84) yX9_go ∈ TB := tb_of (List.mem_of_getElem? (i := 753) (by decide +kernel)) (by decide +kernel)
theorem tw755 : Cond.instanceMethod yX9_go ∈ TB := tb_of (List.mem_of_getElem? (i := 755) (by decide +kernel)) (by decide +kernel)
theorem tw756 : Cond.code yX9_go prog_11_method_7_code (2) (Option.some Jvm.ClassFile.FieldType.boolean) ∈ TB := tb_of (List.mem_of_getElem? (i := 756) (by decide +kernel)) (by decide +kernel)
theorem tw757 : Cond.methodLink RX9 (76) yX9_kindOf ∈ TB := tb_of (List.mem_of_getElem? (i := 757) (by decide +kernel)) (by decide +kernel)
theorem tw758 : Cond.static yX9_kindOf ∈ TB := tb_of (List.mem_of_getElem? (i := 758) (by decide +kernel)) (by decide +kernel)
theorem tw759 : Cond.code yX9_kindOf prog_11_method_5_code (1) (Option.some Jvm.ClassFile.FieldType.int) ∈ TB := tb_of (List.mem_of_getElem? (i := 759) (by decide +kernel)) (by decide +kernel)
theorem tw760 : Cond.methodLink RX9 (80) yX9_goDigit ∈ TB := tb_of (List.mem_of_getElem? (i := 760) (by decide +kernel)) (by decide +kernel)
theorem tw762 : Cond.instanceMethod yX9_goDigit ∈ TB := tb_of (List.mem_of_getElem? (i := 762) (by decide +kernel)) (by decide +kernel)
theorem tw763 : Cond.code yX9_goDigit prog_11_method_6_code (5) (Option.some Jvm.ClassFile.FieldType.boolean) ∈ TB := tb_of (List.mem_of_getElem? (i := 763) (by decide +kernel)) (by decide +kernel)
theorem tw764 : Cond.constantLong RX9 (68) (9) ∈ TB := tb_of (List.mem_of_getElem? (i := 764) (by decide +kernel)) (by decide +kernel)
theorem tw765 : Cond.methodLink RX9 (70) yX9_in ∈ TB := tb_of (List.mem_of_getElem? (i := 765) (by decide +kernel)) (by decide +kernel)
theorem tw766 : Cond.static yX9_in ∈ TB := tb_of (List.mem_of_getElem? (i := 766) (by decide +kernel)) (by decide +kernel)
theorem tw767 : Cond.code yX9_in prog_11_method_2_code (6) (Option.some Jvm.ClassFile.FieldType.boolean) ∈ TB := tb_of (List.mem_of_getElem? (i := 767) (by decide +kernel)) (by decide +kernel)
theorem tw768 : Cond.constantLong RX9 (74) (7) ∈ TB := tb_of (List.mem_of_getElem? (i := 768) (by decide +kernel)) (by decide +kernel)
theorem tw769 : Cond.methodLink RL (32) yX9_contracts ∈ TB := tb_of (List.mem_of_getElem? (i := 769) (by decide +kernel)) (by decide +kernel)
theorem tw770 : Cond.instanceMethod yX9_contracts ∈ TB := tb_of (List.mem_of_getElem? (i := 770) (by decide +kernel)) (by decide +kernel)
theorem tw771 : Cond.selects RX9 yX9_contracts yX9_contracts ∈ TB := tb_of (List.mem_of_getElem? (i := 771) (by decide +kernel)) (by decide +kernel)
theorem tw772 : Cond.code yX9_contracts prog_11_method_10_code (2) (Option.some Jvm.ClassFile.FieldType.int) ∈ TB := tb_of (List.mem_of_getElem? (i := 772) (by decide +kernel)) (by decide +kernel)
theorem tw773 : Cond.methodLink RL (37) yX9_about ∈ TB := tb_of (List.mem_of_getElem? (i := 773) (by decide +kernel)) (by decide +kernel)
theorem tw774 : Cond.instanceMethod yX9_about ∈ TB := tb_of (List.mem_of_getElem? (i := 774) (by decide +kernel)) (by decide +kernel)
theorem tw775 : Cond.selects RX9 yX9_about yX9_about ∈ TB := tb_of (List.mem_of_getElem? (i := 775) (by decide +kernel)) (by decide +kernel)
theorem tw776 : Cond.code yX9_about prog_11_method_15_code (3) (Option.some Jvm.ClassFile.FieldType.int) ∈ TB := tb_of (List.mem_of_getElem? (i := 776) (by decide +kernel)) (by decide +kernel)
theorem tw777 : Cond.methodLink RX9 (102) yX9_isThief ∈ TB := tb_of (List.mem_of_getElem? (i := 777) (by decide +kernel)) (by decide +kernel)
theorem tw779 : Cond.instanceMethod yX9_isThief ∈ TB := tb_of (List.mem_of_getElem? (i := 779) (by decide +kernel)) (by decide +kernel)
theorem tw780 : Cond.code yX9_isThief prog_11_method_12_code (2) (Option.some Jvm.ClassFile.FieldType.boolean) ∈ TB := tb_of (List.mem_of_getElem? (i := 780) (by decide +kernel)) (by decide +kernel)
theorem tw781 : Cond.methodLink RX9 (105) yX9_tell ∈ TB := tb_of (List.mem_of_getElem? (i := 781) (by decide +kernel)) (by decide +kernel)
theorem tw783 : Cond.instanceMethod yX9_tell ∈ TB := tb_of (List.mem_of_getElem? (i := 783) (by decide +kernel)) (by decide +kernel)
theorem tw784 : Cond.code yX9_tell prog_11_method_14_code (3) (Option.some Jvm.ClassFile.FieldType.int) ∈ TB := tb_of (List.mem_of_getElem? (i := 784) (by decide +kernel)) (by decide +kernel)
theorem tw785 : Cond.constantLong RX9 (100) (3) ∈ TB := tb_of (List.mem_of_getElem? (i := 785) (by decide +kernel)) (by decide +kernel)
theorem tw786 : Cond.methodLink RL (41) yX9_as ∈ TB := tb_of (List.mem_of_getElem? (i := 786) (by decide +kernel)) (by decide +kernel)
theorem tw787 : Cond.instanceMethod yX9_as ∈ TB := tb_of (List.mem_of_getElem? (i := 787) (by decide +kernel)) (by decide +kernel)
theorem tw788 : Cond.selects RX9 yX9_as yX9_as ∈ TB := tb_of (List.mem_of_getElem? (i := 788) (by decide +kernel)) (by decide +kernel)
theorem tw789 : Cond.code yX9_as prog_11_method_16_code (5) (Option.some Jvm.ClassFile.FieldType.int) ∈ TB := tb_of (List.mem_of_getElem? (i := 789) (by decide +kernel)) (by decide +kernel)
theorem tw790 : Cond.constantLong RX9 (109) (4) ∈ TB := tb_of (List.mem_of_getElem? (i := 790) (by decide +kernel)) (by decide +kernel)
theorem tw791 : Cond.methodLink RL (46) yX9_paid ∈ TB := tb_of (List.mem_of_getElem? (i := 791) (by decide +kernel)) (by decide +kernel)
theorem tw792 : Cond.instanceMethod yX9_paid ∈ TB := tb_of (List.mem_of_getElem? (i := 792) (by decide +kernel)) (by decide +kernel)
theorem tw793 : Cond.selects RX9 yX9_paid yX9_paid ∈ TB := tb_of (List.mem_of_getElem? (i := 793) (by decide +kernel)) (by decide +kernel)
theorem tw794 : Cond.code yX9_paid prog_11_method_17_code (4) (Option.some Jvm.ClassFile.FieldType.int) ∈ TB := tb_of (List.mem_of_getElem? (i := 794) (by decide +kernel)) (by decide +kernel)
theorem tw795 : Cond.methodLink RL (50) yX9_tenths ∈ TB := tb_of (List.mem_of_getElem? (i := 795) (by decide +kernel)) (by decide +kernel)
theorem tw796 : Cond.instanceMethod yX9_tenths ∈ TB := tb_of (List.mem_of_getElem? (i := 796) (by decide +kernel)) (by decide +kernel)
theorem tw797 : Cond.selects RX9 yX9_tenths yX9_tenths ∈ TB := tb_of (List.mem_of_getElem? (i := 797) (by decide +kernel)) (by decide +kernel)
theorem tw798 : Cond.code yX9_tenths prog_11_method_18_code (4) (Option.some Jvm.ClassFile.FieldType.int) ∈ TB := tb_of (List.mem_of_getElem? (i := 798) (by decide +kernel)) (by decide +kernel)
theorem tw799 : Cond.constantLong RX9 (111) (10) ∈ TB := tb_of (List.mem_of_getElem? (i := 799) (by decide +kernel)) (by decide +kernel)
theorem tw800 : Cond.methodLink RL (54) yX9_lock ∈ TB := tb_of (List.mem_of_getElem? (i := 800) (by decide +kernel)) (by decide +kernel)
theorem tw801 : Cond.instanceMethod yX9_lock ∈ TB := tb_of (List.mem_of_getElem? (i := 801) (by decide +kernel)) (by decide +kernel)
theorem tw802 : Cond.selects RX9 yX9_lock yX9_lock ∈ TB := tb_of (List.mem_of_getElem? (i := 802) (by decide +kernel)) (by decide +kernel)
theorem tw803 : Cond.code yX9_lock prog_11_method_20_code (4) (Option.some Jvm.ClassFile.FieldType.int) ∈ TB := tb_of (List.mem_of_getElem? (i := 803) (by decide +kernel)) (by decide +kernel)
theorem tw804 : Cond.methodLink RX9 (116) yX9_isHouse ∈ TB := tb_of (List.mem_of_getElem? (i := 804) (by decide +kernel)) (by decide +kernel)
theorem tw805 : Cond.static yX9_isHouse ∈ TB := tb_of (List.mem_of_getElem? (i := 805) (by decide +kernel)) (by decide +kernel)
theorem tw806 : Cond.code yX9_isHouse prog_11_method_13_code (1) (Option.some Jvm.ClassFile.FieldType.boolean) ∈ TB := tb_of (List.mem_of_getElem? (i := 806) (by decide +kernel)) (by decide +kernel)
theorem tw807 : Cond.methodLink RL (58) yX9_dog ∈ TB := tb_of (List.mem_of_getElem? (i := 807) (by decide +kernel)) (by decide +kernel)
theorem tw808 : Cond.instanceMethod yX9_dog ∈ TB := tb_of (List.mem_of_getElem? (i := 808) (by decide +kernel)) (by decide +kernel)
theorem tw809 : Cond.selects RX9 yX9_dog yX9_dog ∈ TB := tb_of (List.mem_of_getElem? (i := 809) (by decide +kernel)) (by decide +kernel)
theorem tw810 : Cond.code yX9_dog prog_11_method_21_code (4) (Option.some Jvm.ClassFile.FieldType.int) ∈ TB := tb_of (List.mem_of_getElem? (i := 810) (by decide +kernel)) (by decide +kernel)
theorem tw811 : Cond.methodLink RL (62) yX9_spoon ∈ TB := tb_of (List.mem_of_getElem? (i := 811) (by decide +kernel)) (by decide +kernel)
theorem tw812 : Cond.instanceMethod yX9_spoon ∈ TB := tb_of (List.mem_of_getElem? (i := 812) (by decide +kernel)) (by decide +kernel)
theorem tw813 : Cond.selects RX9 yX9_spoon yX9_spoon ∈ TB := tb_of (List.mem_of_getElem? (i := 813) (by decide +kernel)) (by decide +kernel)
theorem tw814 : Cond.code yX9_spoon prog_11_method_22_code (3) (Option.some Jvm.ClassFile.FieldType.int) ∈ TB := tb_of (List.mem_of_getElem? (i := 814) (by decide +kernel)) (by decide +kernel)
theorem tw815 : Cond.constantLong RX9 (122) (99) ∈ TB := tb_of (List.mem_of_getElem? (i := 815) (by decide +kernel)) (by decide +kernel)
theorem tw816 : Cond.methodLink RL (66) yX9_silver ∈ TB := tb_of (List.mem_of_getElem? (i := 816) (by decide +kernel)) (by decide +kernel)
theorem tw817 : Cond.instanceMethod yX9_silver ∈ TB := tb_of (List.mem_of_getElem? (i := 817) (by decide +kernel)) (by decide +kernel)
theorem tw818 : Cond.selects RX9 yX9_silver yX9_silver ∈ TB := tb_of (List.mem_of_getElem? (i := 818) (by decide +kernel)) (by decide +kernel)
theorem tw819 : Cond.code yX9_silver prog_11_method_23_code (3) (Option.some Jvm.ClassFile.FieldType.int) ∈ TB := tb_of (List.mem_of_getElem? (i := 819) (by decide +kernel)) (by decide +kernel)
theorem tw820 : Cond.methodLink RX9 (124) yX9_isSpoon ∈ TB := tb_of (List.mem_of_getElem? (i := 820) (by decide +kernel)) (by decide +kernel)
theorem tw822 : Cond.instanceMethod yX9_isSpoon ∈ TB := tb_of (List.mem_of_getElem? (i := 822) (by decide +kernel)) (by decide +kernel)
theorem tw823 : Cond.code yX9_isSpoon prog_11_method_19_code (2) (Option.some Jvm.ClassFile.FieldType.boolean) ∈ TB := tb_of (List.mem_of_getElem? (i := 823) (by decide +kernel)) (by decide +kernel)
theorem tw824 : Cond.methodLink RL (71) yX9_worth ∈ TB := tb_of (List.mem_of_getElem? (i := 824) (by decide +kernel)) (by decide +kernel)
theorem tw825 : Cond.instanceMethod yX9_worth ∈ TB := tb_of (List.mem_of_getElem? (i := 825) (by decide +kernel)) (by decide +kernel)
theorem tw826 : Cond.selects RX9 yX9_worth yX9_worth ∈ TB := tb_of (List.mem_of_getElem? (i := 826) (by decide +kernel)) (by decide +kernel)
theorem tw827 : Cond.code yX9_worth prog_11_method_25_code (2) (Option.some Jvm.ClassFile.FieldType.int) ∈ TB := tb_of (List.mem_of_getElem? (i := 827) (by decide +kernel)) (by decide +kernel)
theorem tw828 : Cond.methodLink RX9 (127) yX9_worthOf ∈ TB := tb_of (List.mem_of_getElem? (i := 828) (by decide +kernel)) (by decide +kernel)
theorem tw830 : Cond.instanceMethod yX9_worthOf ∈ TB := tb_of (List.mem_of_getElem? (i := 830) (by decide +kernel)) (by decide +kernel)
theorem tw831 : Cond.code yX9_worthOf prog_11_method_24_code (4) (Option.some Jvm.ClassFile.FieldType.int) ∈ TB := tb_of (List.mem_of_getElem? (i := 831) (by decide +kernel)) (by decide +kernel)
theorem tw832 : Cond.methodLink RL (75) yX9_month ∈ TB := tb_of (List.mem_of_getElem? (i := 832) (by decide +kernel)) (by decide +kernel)
theorem tw833 : Cond.instanceMethod yX9_month ∈ TB := tb_of (List.mem_of_getElem? (i := 833) (by decide +kernel)) (by decide +kernel)
theorem tw834 : Cond.selects RX9 yX9_month yX9_month ∈ TB := tb_of (List.mem_of_getElem? (i := 834) (by decide +kernel)) (by decide +kernel)
theorem tw835 : Cond.code yX9_month prog_11_method_33_code (3) (Option.some Jvm.ClassFile.FieldType.int) ∈ TB := tb_of (List.mem_of_getElem? (i := 835) (by decide +kernel)) (by decide +kernel)
theorem tw836 : Cond.methodLink RX9 (147) yX9_lacks ∈ TB := tb_of (List.mem_of_getElem? (i := 836) (by decide +kernel)) (by decide +kernel)
theorem tw838 : Cond.instanceMethod yX9_lacks ∈ TB := tb_of (List.mem_of_getElem? (i := 838) (by decide +kernel)) (by decide +kernel)
theorem tw839 : Cond.code yX9_lacks prog_11_method_11_code (1) (Option.some Jvm.ClassFile.FieldType.boolean) ∈ TB := tb_of (List.mem_of_getElem? (i := 839) (by decide +kernel)) (by decide +kernel)
theorem tw840 : Cond.methodLink RX9 (151) yX9_begin ∈ TB := tb_of (List.mem_of_getElem? (i := 840) (by decide +kernel)) (by decide +kernel)
theorem tw842 : Cond.instanceMethod yX9_begin ∈ TB := tb_of (List.mem_of_getElem? (i := 842) (by decide +kernel)) (by decide +kernel)
theorem tw843 : Cond.code yX9_begin prog_11_method_26_code (2) (Option.none : Option Jvm.ClassFile.FieldType) ∈ TB := tb_of (List.mem_of_getElem? (i := 843) (by decide +kernel)) (by decide +kernel)
theorem tw844 : Cond.methodLink RX9 (154) yX9_pass ∈ TB := tb_of (List.mem_of_getElem? (i := 844) (by decide +kernel)) (by decide +kernel)
theorem tw846 : Cond.instanceMethod yX9_pass ∈ TB := tb_of (List.mem_of_getElem? (i := 846) (by decide +kernel)) (by decide +kernel)
theorem tw847 : Cond.code yX9_pass prog_11_method_32_code (6) (Option.some Jvm.ClassFile.FieldType.int) ∈ TB := tb_of (List.mem_of_getElem? (i := 847) (by decide +kernel)) (by decide +kernel)
theorem tw848 : Cond.methodLink RX9 (144) yX9_visit ∈ TB := tb_of (List.mem_of_getElem? (i := 848) (by decide +kernel)) (by decide +kernel)
theorem tw850 : Cond.instanceMethod yX9_visit ∈ TB := tb_of (List.mem_of_getElem? (i := 850) (by decide +kernel)) (by decide +kernel)
theorem tw851 : Cond.code yX9_visit prog_11_method_31_code (8) (Option.some Jvm.ClassFile.FieldType.int) ∈ TB := tb_of (List.mem_of_getElem? (i := 851) (by decide +kernel)) (by decide +kernel)
theorem tw852 : Cond.methodLink RX9 (130) yX9_fromOf ∈ TB := tb_of (List.mem_of_getElem? (i := 852) (by decide +kernel)) (by decide +kernel)
theorem tw854 : Cond.instanceMethod yX9_fromOf ∈ TB := tb_of (List.mem_of_getElem? (i := 854) (by decide +kernel)) (by decide +kernel)
theorem tw855 : Cond.code yX9_fromOf prog_11_method_27_code (3) (Option.some Jvm.ClassFile.FieldType.int) ∈ TB := tb_of (List.mem_of_getElem? (i := 855) (by decide +kernel)) (by decide +kernel)
theorem tw856 : Cond.methodLink RX9 (133) yX9_mayTake ∈ TB := tb_of (List.mem_of_getElem? (i := 856) (by decide +kernel)) (by decide +kernel)
theorem tw858 : Cond.instanceMethod yX9_mayTake ∈ TB := tb_of (List.mem_of_getElem? (i := 858) (by decide +kernel)) (by decide +kernel)
theorem tw859 : Cond.code yX9_mayTake prog_11_method_29_code (4) (Option.some Jvm.ClassFile.FieldType.boolean) ∈ TB := tb_of (List.mem_of_getElem? (i := 859) (by decide +kernel)) (by decide +kernel)
theorem tw860 : Cond.methodLink RX9 (137) yX9_pick ∈ TB := tb_of (List.mem_of_getElem? (i := 860) (by decide +kernel)) (by decide +kernel)
theorem tw862 : Cond.instanceMethod yX9_pick ∈ TB := tb_of (List.mem_of_getElem? (i := 862) (by decide +kernel)) (by decide +kernel)
theorem tw863 : Cond.code yX9_pick prog_11_method_30_code (7) (Option.some Jvm.ClassFile.FieldType.int) ∈ TB := tb_of (List.mem_of_getElem? (i := 863) (by decide +kernel)) (by decide +kernel)
theorem tw864 : Cond.methodLink RX9 (141) yX9_toOf ∈ TB := tb_of (List.mem_of_getElem? (i := 864) (by decide +kernel)) (by decide +kernel)
theorem tw866 : Cond.instanceMethod yX9_toOf ∈ TB := tb_of (List.mem_of_getElem? (i := 866) (by decide +kernel)) (by decide +kernel)
theorem tw867 : Cond.code yX9_toOf prog_11_method_28_code (3) (Option.some Jvm.ClassFile.FieldType.int) ∈ TB := tb_of (List.mem_of_getElem? (i := 867) (by decide +kernel)) (by decide +kernel)
theorem tw868 : Cond.methodLink RL (79) yX9_where ∈ TB := tb_of (List.mem_of_getElem? (i := 868) (by decide +kernel)) (by decide +kernel)
theorem tw869 : Cond.instanceMethod yX9_where ∈ TB := tb_of (List.mem_of_getElem? (i := 869) (by decide +kernel)) (by decide +kernel)
theorem tw870 : Cond.selects RX9 yX9_where yX9_where ∈ TB := tb_of (List.mem_of_getElem? (i := 870) (by decide +kernel)) (by decide +kernel)
theorem tw871 : Cond.code yX9_where prog_11_method_34_code (5) (Option.some Jvm.ClassFile.FieldType.int) ∈ TB := tb_of (List.mem_of_getElem? (i := 871) (by decide +kernel)) (by decide +kernel)
theorem tw872 : Cond.constantLong RX9 (163) (60) ∈ TB := tb_of (List.mem_of_getElem? (i := 872) (by decide +kernel)) (by decide +kernel)
theorem tw873 : Cond.methodLink RL (84) yX9_chance ∈ TB := tb_of (List.mem_of_getElem? (i := 873) (by decide +kernel)) (by decide +kernel)
theorem tw874 : Cond.instanceMethod yX9_chance ∈ TB := tb_of (List.mem_of_getElem? (i := 874) (by decide +kernel)) (by decide +kernel)
theorem tw875 : Cond.selects RX9 yX9_chance yX9_chance ∈ TB := tb_of (List.mem_of_getElem? (i := 875) (by decide +kernel)) (by decide +kernel)
theorem tw876 : Cond.code yX9_chance prog_11_method_36_code (13) (Option.some Jvm.ClassFile.FieldType.long) ∈ TB := tb_of (List.mem_of_getElem? (i := 876) (by decide +kernel)) (by decide +kernel)
theorem tw877 : Cond.constantLong RX9 (165) (-101) ∈ TB := tb_of (List.mem_of_getElem? (i := 877) (by decide +kernel)) (by decide +kernel)
theorem tw878 : Cond.constantLong RX9 (167) (2) ∈ TB := tb_of (List.mem_of_getElem? (i := 878) (by decide +kernel)) (by decide +kernel)
theorem tw879 : Cond.constantLong RX9 (169) (-102) ∈ TB := tb_of (List.mem_of_getElem? (i := 879) (by decide +kernel)) (by decide +kernel)
theorem tw880 : Cond.constantLong RX9 (171) (-103) ∈ TB := tb_of (List.mem_of_getElem? (i := 880) (by decide +kernel)) (by decide +kernel)
theorem tw881 : Cond.methodLink RX9 (173) yX9_term ∈ TB := tb_of (List.mem_of_getElem? (i := 881) (by decide +kernel)) (by decide +kernel)
theorem tw882 : Cond.static yX9_term ∈ TB := tb_of (List.mem_of_getElem? (i := 882) (by decide +kernel)) (by decide +kernel)
theorem tw883 : Cond.code yX9_term prog_11_method_35_code (11) (Option.some Jvm.ClassFile.FieldType.long) ∈ TB := tb_of (List.mem_of_getElem? (i := 883) (by decide +kernel)) (by decide +kernel)
theorem tw884 : Cond.methodLink RL (89) yX9_whom ∈ TB := tb_of (List.mem_of_getElem? (i := 884) (by decide +kernel)) (by decide +kernel)
theorem tw885 : Cond.instanceMethod yX9_whom ∈ TB := tb_of (List.mem_of_getElem? (i := 885) (by decide +kernel)) (by decide +kernel)
theorem tw886 : Cond.selects RX9 yX9_whom yX9_whom ∈ TB := tb_of (List.mem_of_getElem? (i := 886) (by decide +kernel)) (by decide +kernel)
theorem tw887 : Cond.code yX9_whom prog_11_method_40_code (4) (Option.some Jvm.ClassFile.FieldType.int) ∈ TB := tb_of (List.mem_of_getElem? (i := 887) (by decide +kernel)) (by decide +kernel)
theorem tw888 : Cond.constant RX9 (184) (-100101) ∈ TB := tb_of (List.mem_of_getElem? (i := 888) (by decide +kernel)) (by decide +kernel)
theorem tw889 : Cond.constantLong RX9 (185) (12) ∈ TB := tb_of (List.mem_of_getElem? (i := 889) (by decide +kernel)) (by decide +kernel)
theorem tw890 : Cond.constant RX9 (187) (-100102) ∈ TB := tb_of (List.mem_of_getElem? (i := 890) (by decide +kernel)) (by decide +kernel)
theorem tw891 : Cond.constant RX9 (188) (-100103) ∈ TB := tb_of (List.mem_of_getElem? (i := 891) (by decide +kernel)) (by decide +kernel)
theorem tw892 : Cond.methodLink RX9 (189) yX9_whomOf ∈ TB := tb_of (List.mem_of_getElem? (i := 892) (by decide +kernel)) (by decide +kernel)
theorem tw894 : Cond.instanceMethod yX9_whomOf ∈ TB := tb_of (List.mem_of_getElem? (i := 894) (by decide +kernel)) (by decide +kernel)
theorem tw895 : Cond.code yX9_whomOf prog_11_method_39_code (11) (Option.some Jvm.ClassFile.FieldType.int) ∈ TB := tb_of (List.mem_of_getElem? (i := 895) (by decide +kernel)) (by decide +kernel)
theorem tw896 : Cond.constant RX9 (177) (-1000000) ∈ TB := tb_of (List.mem_of_getElem? (i := 896) (by decide +kernel)) (by decide +kernel)
theorem tw897 : Cond.methodLink RX9 (178) yX9_inHouse ∈ TB := tb_of (List.mem_of_getElem? (i := 897) (by decide +kernel)) (by decide +kernel)
theorem tw899 : Cond.instanceMethod yX9_inHouse ∈ TB := tb_of (List.mem_of_getElem? (i := 899) (by decide +kernel)) (by decide +kernel)
theorem tw900 : Cond.code yX9_inHouse prog_11_method_38_code (4) (Option.some Jvm.ClassFile.FieldType.int) ∈ TB := tb_of (List.mem_of_getElem? (i := 900) (by decide +kernel)) (by decide +kernel)
theorem tw901 : Cond.methodLink RX9 (181) yX9_ones ∈ TB := tb_of (List.mem_of_getElem? (i := 901) (by decide +kernel)) (by decide +kernel)
theorem tw902 : Cond.static yX9_ones ∈ TB := tb_of (List.mem_of_getElem? (i := 902) (by decide +kernel)) (by decide +kernel)
theorem tw903 : Cond.code yX9_ones prog_11_method_37_code (3) (Option.some Jvm.ClassFile.FieldType.int) ∈ TB := tb_of (List.mem_of_getElem? (i := 903) (by decide +kernel)) (by decide +kernel)
theorem tw904 : Cond.methodLink RL (93) yX9_still ∈ TB := tb_of (List.mem_of_getElem? (i := 904) (by decide +kernel)) (by decide +kernel)
theorem tw905 : Cond.instanceMethod yX9_still ∈ TB := tb_of (List.mem_of_getElem? (i := 905) (by decide +kernel)) (by decide +kernel)
theorem tw906 : Cond.selects RX9 yX9_still yX9_still ∈ TB := tb_of (List.mem_of_getElem? (i := 906) (by decide +kernel)) (by decide +kernel)
theorem tw907 : Cond.code yX9_still prog_11_method_42_code (1) (Option.some Jvm.ClassFile.FieldType.int) ∈ TB := tb_of (List.mem_of_getElem? (i := 907) (by decide +kernel)) (by decide +kernel)
theorem tw908 : Cond.methodLink RX9 (193) yX9_stillOf ∈ TB := tb_of (List.mem_of_getElem? (i := 908) (by decide +kernel)) (by decide +kernel)
theorem tw910 : Cond.instanceMethod yX9_stillOf ∈ TB := tb_of (List.mem_of_getElem? (i := 910) (by decide +kernel)) (by decide +kernel)
theorem tw911 : Cond.code yX9_stillOf prog_11_method_41_code (2) (Option.some Jvm.ClassFile.FieldType.int) ∈ TB := tb_of (List.mem_of_getElem? (i := 911) (by decide +kernel)) (by decide +kernel)
theorem tw912 : Cond.methodLink RL (97) yX9_seen ∈ TB := tb_of (List.mem_of_getElem? (i := 912) (by decide +kernel)) (by decide +kernel)
theorem tw913 : Cond.instanceMethod yX9_seen ∈ TB := tb_of (List.mem_of_getElem? (i := 913) (by decide +kernel)) (by decide +kernel)
theorem tw914 : Cond.selects RX9 yX9_seen yX9_seen ∈ TB := tb_of (List.mem_of_getElem? (i := 914) (by decide +kernel)) (by decide +kernel)
theorem tw915 : Cond.code yX9_seen prog_11_method_43_code (4) (Option.some Jvm.ClassFile.FieldType.int) ∈ TB := tb_of (List.mem_of_getElem? (i := 915) (by decide +kernel)) (by decide +kernel)
theorem tw916 : Cond.methodLink RL (101) yX9_who ∈ TB := tb_of (List.mem_of_getElem? (i := 916) (by decide +kernel)) (by decide +kernel)
theorem tw917 : Cond.instanceMethod yX9_who ∈ TB := tb_of (List.mem_of_getElem? (i := 917) (by decide +kernel)) (by decide +kernel)
theorem tw918 : Cond.selects RX9 yX9_who yX9_who ∈ TB := tb_of (List.mem_of_getElem? (i := 918) (by decide +kernel)) (by decide +kernel)
theorem tw919 : Cond.code yX9_who prog_11_method_46_code (1) (Option.some Jvm.ClassFile.FieldType.int) ∈ TB := tb_of (List.mem_of_getElem? (i := 919) (by decide +kernel)) (by decide +kernel)
theorem tw920 : Cond.methodLink RX9 (199) yX9_whoOf ∈ TB := tb_of (List.mem_of_getElem? (i := 920) (by decide +kernel)) (by decide +kernel)
theorem tw922 : Cond.instanceMethod yX9_whoOf ∈ TB := tb_of (List.mem_of_getElem? (i := 922) (by decide +kernel)) (by decide +kernel)
theorem tw923 : Cond.code yX9_whoOf prog_11_method_45_code (3) (Option.some Jvm.ClassFile.FieldType.int) ∈ TB := tb_of (List.mem_of_getElem? (i := 923) (by decide +kernel)) (by decide +kernel)
theorem tw924 : Cond.methodLink RX9 (196) yX9_isSeenSo ∈ TB := tb_of (List.mem_of_getElem? (i := 924) (by decide +kernel)) (by decide +kernel)
theorem tw926 : Cond.instanceMethod yX9_isSeenSo ∈ TB := tb_of (List.mem_of_getElem? (i := 926) (by decide +kernel)) (by decide +kernel)
theorem tw927 : Cond.code yX9_isSeenSo prog_11_method_44_code (5) (Option.some Jvm.ClassFile.FieldType.boolean) ∈ TB := tb_of (List.mem_of_getElem? (i := 927) (by decide +kernel)) (by decide +kernel)
theorem tw928 : Cond.methodLink RL (105) yX9_owes ∈ TB := tb_of (List.mem_of_getElem? (i := 928) (by decide +kernel)) (by decide +kernel)
theorem tw929 : Cond.instanceMethod yX9_owes ∈ TB := tb_of (List.mem_of_getElem? (i := 929) (by decide +kernel)) (by decide +kernel)
theorem tw930 : Cond.selects RX9 yX9_owes yX9_owes ∈ TB := tb_of (List.mem_of_getElem? (i := 930) (by decide +kernel)) (by decide +kernel)
theorem tw931 : Cond.code yX9_owes prog_11_method_48_code (3) (Option.some Jvm.ClassFile.FieldType.int) ∈ TB := tb_of (List.mem_of_getElem? (i := 931) (by decide +kernel)) (by decide +kernel)
theorem tw932 : Cond.methodLink RX9 (202) yX9_owesOf ∈ TB := tb_of (List.mem_of_getElem? (i := 932) (by decide +kernel)) (by decide +kernel)
theorem tw934 : Cond.instanceMethod yX9_owesOf ∈ TB := tb_of (List.mem_of_getElem? (i := 934) (by decide +kernel)) (by decide +kernel)
theorem tw935 : Cond.code yX9_owesOf prog_11_method_47_code (5) (Option.some Jvm.ClassFile.FieldType.int) ∈ TB := tb_of (List.mem_of_getElem? (i := 935) (by decide +kernel)) (by decide +kernel)
theorem tw936 : Cond.methodLink RL (109) yX9_fewest ∈ TB := tb_of (List.mem_of_getElem? (i := 936) (by decide +kernel)) (by decide +kernel)
theorem tw937 : Cond.instanceMethod yX9_fewest ∈ TB := tb_of (List.mem_of_getElem? (i := 937) (by decide +kernel)) (by decide +kernel)
theorem tw938 : Cond.selects RX9 yX9_fewest yX9_fewest ∈ TB := tb_of (List.mem_of_getElem? (i := 938) (by decide +kernel)) (by decide +kernel)
theorem tw939 : Cond.code yX9_fewest prog_11_method_51_code (1) (Option.some Jvm.ClassFile.FieldType.int) ∈ TB := tb_of (List.mem_of_getElem? (i := 939) (by decide +kernel)) (by decide +kernel)
theorem tw940 : Cond.methodLink RX9 (208) yX9_fewestOf ∈ TB := tb_of (List.mem_of_getElem? (i := 940) (by decide +kernel)) (by decide +kernel)
theorem tw942 : Cond.instanceMethod yX9_fewestOf ∈ TB := tb_of (List.mem_of_getElem? (i := 942) (by decide +kernel)) (by decide +kernel)
theorem tw943 : Cond.code yX9_fewestOf prog_11_method_50_code (4) (Option.some Jvm.ClassFile.FieldType.int) ∈ TB := tb_of (List.mem_of_getElem? (i := 943) (by decide +kernel)) (by decide +kernel)
theorem tw944 : Cond.methodLink RX9 (205) yX9_balance ∈ TB := tb_of (List.mem_of_getElem? (i := 944) (by decide +kernel)) (by decide +kernel)
theorem tw946 : Cond.instanceMethod yX9_balance ∈ TB := tb_of (List.mem_of_getElem? (i := 946) (by decide +kernel)) (by decide +kernel)
theorem tw947 : Cond.code yX9_balance prog_11_method_49_code (4) (Option.some Jvm.ClassFile.FieldType.int) ∈ TB := tb_of (List.mem_of_getElem? (i := 947) (by decide +kernel)) (by decide +kernel)
theorem tw948 : Cond.methodLink RL (113) yX9_months ∈ TB := tb_of (List.mem_of_getElem? (i := 948) (by decide +kernel)) (by decide +kernel)
theorem tw949 : Cond.instanceMethod yX9_months ∈ TB := tb_of (List.mem_of_getElem? (i := 949) (by decide +kernel)) (by decide +kernel)
theorem tw950 : Cond.selects RX9 yX9_months yX9_months ∈ TB := tb_of (List.mem_of_getElem? (i := 950) (by decide +kernel)) (by decide +kernel)
theorem tw951 : Cond.code yX9_months prog_11_method_53_code (8) (Option.some Jvm.ClassFile.FieldType.int) ∈ TB := tb_of (List.mem_of_getElem? (i := 951) (by decide +kernel)) (by decide +kernel)
theorem tw952 : Cond.methodLink RX9 (221) yX9_draw ∈ TB := tb_of (List.mem_of_getElem? (i := 952) (by decide +kernel)) (by decide +kernel)
theorem tw954 : Cond.instanceMethod yX9_draw ∈ TB := tb_of (List.mem_of_getElem? (i := 954) (by decide +kernel)) (by decide +kernel)
theorem tw955 : Cond.code yX9_draw prog_11_method_52_code (2) (Option.some Jvm.ClassFile.FieldType.int) ∈ TB := tb_of (List.mem_of_getElem? (i := 955) (by decide +kernel)) (by decide +kernel)
theorem tw956 : Cond.constantLong RX9 (211) (1103515245) ∈ TB := tb_of (List.mem_of_getElem? (i := 956) (by decide +kernel)) (by decide +kernel)
theorem tw957 : Cond.constantLong RX9 (216) (12345) ∈ TB := tb_of (List.mem_of_getElem? (i := 957) (by decide +kernel)) (by decide +kernel)
theorem tw958 : Cond.constantLong RX9 (218) (2147483647) ∈ TB := tb_of (List.mem_of_getElem? (i := 958) (by decide +kernel)) (by decide +kernel)
theorem tw959 : Cond.constant RX9 (220) (65536) ∈ TB := tb_of (List.mem_of_getElem? (i := 959) (by decide +kernel)) (by decide +kernel)
theorem tw960 : Cond.methodLink RL (117) yX9_image ∈ TB := tb_of (List.mem_of_getElem? (i := 960) (by decide +kernel)) (by decide +kernel)
theorem tw961 : Cond.instanceMethod yX9_image ∈ TB := tb_of (List.mem_of_getElem? (i := 961) (by decide +kernel)) (by decide +kernel)
theorem tw962 : Cond.selects RX9 yX9_image yX9_image ∈ TB := tb_of (List.mem_of_getElem? (i := 962) (by decide +kernel)) (by decide +kernel)
theorem tw963 : Cond.code yX9_image prog_11_method_55_code (1) (Option.some Jvm.ClassFile.FieldType.int) ∈ TB := tb_of (List.mem_of_getElem? (i := 963) (by decide +kernel)) (by decide +kernel)
theorem tw964 : Cond.methodLink RX9 (224) yX9_copy ∈ TB := tb_of (List.mem_of_getElem? (i := 964) (by decide +kernel)) (by decide +kernel)
theorem tw965 : Cond.static yX9_copy ∈ TB := tb_of (List.mem_of_getElem? (i := 965) (by decide +kernel)) (by decide +kernel)
theorem tw966 : Cond.code yX9_copy prog_11_method_54_code (3) (Option.none : Option Jvm.ClassFile.FieldType) ∈ TB := tb_of (List.mem_of_getElem? (i := 966) (by decide +kernel)) (by decide +kernel)
theorem tw967 : Cond.methodLink RL (121) yX9_restore ∈ TB := tb_of (List.mem_of_getElem? (i := 967) (by decide +kernel)) (by decide +kernel)
theorem tw968 : Cond.instanceMethod yX9_restore ∈ TB := tb_of (List.mem_of_getElem? (i := 968) (by decide +kernel)) (by decide +kernel)
theorem tw969 : Cond.selects RX9 yX9_restore yX9_restore ∈ TB := tb_of (List.mem_of_getElem? (i := 969) (by decide +kernel)) (by decide +kernel)
theorem tw970 : Cond.code yX9_restore prog_11_method_56_code (1) (Option.some Jvm.ClassFile.FieldType.int) ∈ TB := tb_of (List.mem_of_getElem? (i := 970) (by decide +kernel)) (by decide +kernel)
theorem tw971 : Cond.methodLink RL (125) yX9_count ∈ TB := tb_of (List.mem_of_getElem? (i := 971) (by decide +kernel)) (by decide +kernel)
theorem tw972 : Cond.instanceMethod yX9_count ∈ TB := tb_of (List.mem_of_getElem? (i := 972) (by decide +kernel)) (by decide +kernel)
theorem tw973 : Cond.selects RX9 yX9_count yX9_count ∈ TB := tb_of (List.mem_of_getElem? (i := 973) (by decide +kernel)) (by decide +kernel)
theorem tw974 : Cond.code yX9_count prog_11_method_58_code (2) (Option.some Jvm.ClassFile.FieldType.int) ∈ TB := tb_of (List.mem_of_getElem? (i := 974) (by decide +kernel)) (by decide +kernel)
theorem tw975 : Cond.methodLink RX9 (243) yX9_countOf ∈ TB := tb_of (List.mem_of_getElem? (i := 975) (by decide +kernel)) (by decide +kernel)
theorem tw977 : Cond.instanceMethod yX9_countOf ∈ TB := tb_of (List.mem_of_getElem? (i := 977) (by decide +kernel)) (by decide +kernel)
theorem tw978 : Cond.code yX9_countOf prog_11_method_57_code (4) (Option.some Jvm.ClassFile.FieldType.int) ∈ TB := tb_of (List.mem_of_getElem? (i := 978) (by decide +kernel)) (by decide +kernel)
theorem tw979 : Cond.methodLink RL (130) yX9_digest ∈ TB := tb_of (List.mem_of_getElem? (i := 979) (by decide +kernel)) (by decide +kernel)
theorem tw980 : Cond.instanceMethod yX9_digest ∈ TB := tb_of (List.mem_of_getElem? (i := 980) (by decide +kernel)) (by decide +kernel)
theorem tw981 : Cond.selects RX9 yX9_digest yX9_digest ∈ TB := tb_of (List.mem_of_getElem? (i := 981) (by decide +kernel)) (by decide +kernel)
theorem tw982 : Cond.code yX9_digest prog_11_method_60_code (3) (Option.some Jvm.ClassFile.FieldType.long) ∈ TB := tb_of (List.mem_of_getElem? (i := 982) (by decide +kernel)) (by decide +kernel)
theorem tw983 : Cond.constantLong RX9 (252) (673) ∈ TB := tb_of (List.mem_of_getElem? (i := 983) (by decide +kernel)) (by decide +kernel)
theorem tw984 : Cond.methodLink RX9 (254) yX9_say ∈ TB := tb_of (List.mem_of_getElem? (i := 984) (by decide +kernel)) (by decide +kernel)
theorem tw986 : Cond.instanceMethod yX9_say ∈ TB := tb_of (List.mem_of_getElem? (i := 986) (by decide +kernel)) (by decide +kernel)
theorem tw987 : Cond.code yX9_say prog_11_method_59_code (3) (Option.none : Option Jvm.ClassFile.FieldType) ∈ TB := tb_of (List.mem_of_getElem? (i := 987) (by decide +kernel)) (by decide +kernel)
theorem tw988 : Cond.constantLong RX9 (246) (31) ∈ TB := tb_of (List.mem_of_getElem? (i := 988) (by decide +kernel)) (by decide +kernel)
theorem tw989 : Cond.constantLong RL (13) (4294967295) ∈ TB := tb_of (List.mem_of_getElem? (i := 989) (by decide +kernel)) (by decide +kernel)
end
section
theorem inX0 : ∀ w ∈ u_ws RX0 TX0 3, w ∈ TB := List.forall_mem_cons.mpr ⟨tw316, List.forall_mem_cons.mpr ⟨tw317, List.forall_mem_cons.mpr ⟨tw318, fun _ h => absurd h List.not_mem_nil⟩⟩⟩
theorem inX1 : ∀ w ∈ u_ws RX1 TX1 8, w ∈ TB := List.forall_mem_cons.mpr ⟨tw145, List.forall_mem_cons.mpr ⟨tw147, List.forall_mem_cons.mpr ⟨tw149, List.forall_mem_cons.mpr ⟨tw151, List.forall_mem_cons.mpr ⟨tw153, List.forall_mem_cons.mpr ⟨tw155, List.forall_mem_cons.mpr ⟨tw157, List.forall_mem_cons.mpr ⟨tw159, fun _ h => absurd h List.not_mem_nil⟩⟩⟩⟩⟩⟩⟩⟩
theorem inX2 : ∀ w ∈ u_ws RX2 TX2 3, w ∈ TB := List.forall_mem_cons.mpr ⟨tw326, List.forall_mem_cons.mpr ⟨tw327, List.forall_mem_cons.mpr ⟨tw328, fun _ h => absurd h List.not_mem_nil⟩⟩⟩
theorem inX3 : ∀ w ∈ u_ws RX3 TX3 3, w ∈ TB := List.forall_mem_cons.mpr ⟨tw336, List.forall_mem_cons.mpr ⟨tw337, List.forall_mem_cons.mpr ⟨tw338, fun _ h => absurd h List.not_mem_nil⟩⟩⟩
theorem inX4 : ∀ w ∈ u_ws RX4 TX4 2, w ∈ TB := List.forall_mem_cons.mpr ⟨tw85, List.forall_mem_cons.mpr ⟨tw87, fun _ h => absurd h List.not_mem_nil⟩⟩
theorem inX5 : ∀ w ∈ u_ws RX5 TX5 6, w ∈ TB := List.forall_mem_cons.mpr ⟨tw108, List.forall_mem_cons.mpr ⟨tw110, List.forall_mem_cons.mpr ⟨tw112, List.forall_mem_cons.mpr ⟨tw114, List.forall_mem_cons.mpr ⟨tw116, List.forall_mem_cons.mpr ⟨tw118, fun _ h => absurd h List.not_mem_nil⟩⟩⟩⟩⟩⟩
theorem inX6 : ∀ w ∈ u_ws RX6 TX6 3, w ∈ TB := List.forall_mem_cons.mpr ⟨tw306, List.forall_mem_cons.mpr ⟨tw307, List.forall_mem_cons.mpr ⟨tw308, fun _ h => absurd h List.not_mem_nil⟩⟩⟩
theorem inX7 : ∀ w ∈ u_ws RX7 TX7 3, w ∈ TB := List.forall_mem_cons.mpr ⟨tw174, List.forall_mem_cons.mpr ⟨tw176, List.forall_mem_cons.mpr ⟨tw178, fun _ h => absurd h List.not_mem_nil⟩⟩⟩
theorem inX8 : ∀ w ∈ u_ws RX8 TX8 18, w ∈ TB := List.forall_mem_cons.mpr ⟨tw200, List.forall_mem_cons.mpr ⟨tw202, List.forall_mem_cons.mpr ⟨tw204, List.forall_mem_cons.mpr ⟨tw206, List.forall_mem_cons.mpr ⟨tw208, List.forall_mem_cons.mpr ⟨tw210, List.forall_mem_cons.mpr ⟨tw212, List.forall_mem_cons.mpr ⟨tw214, List.forall_mem_cons.mpr ⟨tw216, List.forall_mem_cons.mpr ⟨tw218, List.forall_mem_cons.mpr ⟨tw220, List.forall_mem_cons.mpr ⟨tw222, List.forall_mem_cons.mpr ⟨tw224, List.forall_mem_cons.mpr ⟨tw226, List.forall_mem_cons.mpr ⟨tw228, List.forall_mem_cons.mpr ⟨tw230, List.forall_mem_cons.mpr ⟨tw232, List.forall_mem_cons.mpr ⟨tw234, fun _ h => absurd h List.not_mem_nil⟩⟩⟩⟩⟩⟩⟩⟩⟩⟩⟩⟩⟩⟩⟩⟩⟩⟩
theorem inX9 : ∀ w ∈ u_ws RX9 TX9 32, w ∈ TB := List.forall_mem_cons.mpr ⟨tw671, List.forall_mem_cons.mpr ⟨tw673, List.forall_mem_cons.mpr ⟨tw675, List.forall_mem_cons.mpr ⟨tw677, List.forall_mem_cons.mpr ⟨tw679, List.forall_mem_cons.mpr ⟨tw681, List.forall_mem_cons.mpr ⟨tw683, List.forall_mem_cons.mpr ⟨tw685, List.forall_mem_cons.mpr ⟨tw687, List.forall_mem_cons.mpr ⟨tw689, List.forall_mem_cons.mpr ⟨tw691, List.forall_mem_cons.mpr ⟨tw693, List.forall_mem_cons.mpr ⟨tw695, List.forall_mem_cons.mpr ⟨tw697, List.forall_mem_cons.mpr ⟨tw699, List.forall_mem_cons.mpr ⟨tw701, List.forall_mem_cons.mpr ⟨tw703, List.forall_mem_cons.mpr ⟨tw705, List.forall_mem_cons.mpr ⟨tw707, List.forall_mem_cons.mpr ⟨tw709, List.forall_mem_cons.mpr ⟨tw711, List.forall_mem_cons.mpr ⟨tw713, List.forall_mem_cons.mpr ⟨tw715, List.forall_mem_cons.mpr ⟨tw717, List.forall_mem_cons.mpr ⟨tw719, List.forall_mem_cons.mpr ⟨tw721, List.forall_mem_cons.mpr ⟨tw723, List.forall_mem_cons.mpr ⟨tw725, List.forall_mem_cons.mpr ⟨tw727, List.forall_mem_cons.mpr ⟨tw729, List.forall_mem_cons.mpr ⟨tw731, List.forall_mem_cons.mpr ⟨tw733, fun _ h => absurd h List.not_mem_nil⟩⟩⟩⟩⟩⟩⟩⟩⟩⟩⟩⟩⟩⟩⟩⟩⟩⟩⟩⟩⟩⟩⟩⟩⟩⟩⟩⟩⟩⟩⟩⟩
theorem flX4_9_4 : FL RX4 9 4 0 := ⟨RX4, TX4, 2, rfl, by decide, inX4, tw79⟩
theorem fpX4_9_4 : FP RX4 9 4 0 true (.array .int) := ⟨RX4, TX4, 2, rfl, by decide, inX4, tw79, ⟨tyX4, tyX4_ok⟩, nmX4, rfl, by decide +kernel, fun _ => rfl⟩
theorem flX5_36_4 : FL RX5 36 4 0 := ⟨RX4, TX4, 2, rfl, by decide, inX4, tw80⟩
theorem flX8_92_4 : FL RX8 92 4 0 := ⟨RX4, TX4, 2, rfl, by decide, inX4, tw81⟩
theorem flX4_13_4 : FL RX4 13 4 1 := ⟨RX4, TX4, 2, rfl, by decide, inX4, tw82⟩
theorem fpX4_13_4 : FP RX4 13 4 1 false .int := ⟨RX4, TX4, 2, rfl, by decide, inX4, tw82, ⟨tyX4, tyX4_ok⟩, nmX4, rfl, by decide +kernel, fun h => absurd h (by decide)⟩
theorem flX5_31_4 : FL RX5 31 4 1 := ⟨RX4, TX4, 2, rfl, by decide, inX4, tw83⟩
theorem fpX5_31_4 : FP RX5 31 4 1 false .int := ⟨RX4, TX4, 2, rfl, by decide, inX4, tw83, ⟨tyX4, tyX4_ok⟩, nmX4, rfl, by decide +kernel, fun h => absurd h (by decide)⟩
theorem flX8_89_4 : FL RX8 89 4 1 := ⟨RX4, TX4, 2, rfl, by decide, inX4, tw84⟩
theorem fpX8_89_4 : FP RX8 89 4 1 false .int := ⟨RX4, TX4, 2, rfl, by decide, inX4, tw84, ⟨tyX4, tyX4_ok⟩, nmX4, rfl, by decide +kernel, fun h => absurd h (by decide)⟩
theorem flX5_9_5 : FL RX5 9 5 0 := ⟨RX5, TX5, 6, rfl, by decide, inX5, tw97⟩
theorem fpX5_9_5 : FP RX5 9 5 0 true (.array .int) := ⟨RX5, TX5, 6, rfl, by decide, inX5, tw97, ⟨tyX5, tyX5_ok⟩, nmX5, rfl, by decide +kernel, fun _ => rfl⟩
theorem flX8_110_5 : FL RX8 110 5 0 := ⟨RX5, TX5, 6, rfl, by decide, inX5, tw98⟩
theorem flX5_15_5 : FL RX5 15 5 1 := ⟨RX5, TX5, 6, rfl, by decide, inX5, tw99⟩
theorem fpX5_15_5 : FP RX5 15 5 1 true (.array .int) := ⟨RX5, TX5, 6, rfl, by decide, inX5, tw99, ⟨tyX5, tyX5_ok⟩, nmX5, rfl, by decide +kernel, fun _ => rfl⟩
theorem flX8_113_5 : FL RX8 113 5 1 := ⟨RX5, TX5, 6, rfl, by decide, inX5, tw100⟩
theorem flX5_18_5 : FL RX5 18 5 2 := ⟨RX5, TX5, 6, rfl, by decide, inX5, tw101⟩
theorem fpX5_18_5 : FP RX5 18 5 2 true (.array .int) := ⟨RX5, TX5, 6, rfl, by decide, inX5, tw101, ⟨tyX5, tyX5_ok⟩, nmX5, rfl, by decide +kernel, fun _ => rfl⟩
theorem flX8_116_5 : FL RX8 116 5 2 := ⟨RX5, TX5, 6, rfl, by decide, inX5, tw102⟩
theorem flX5_21_5 : FL RX5 21 5 3 := ⟨RX5, TX5, 6, rfl, by decide, inX5, tw103⟩
theorem fpX5_21_5 : FP RX5 21 5 3 true (.array .int) := ⟨RX5, TX5, 6, rfl, by decide, inX5, tw103, ⟨tyX5, tyX5_ok⟩, nmX5, rfl, by decide +kernel, fun _ => rfl⟩
theorem flX8_119_5 : FL RX8 119 5 3 := ⟨RX5, TX5, 6, rfl, by decide, inX5, tw104⟩
theorem flX5_24_5 : FL RX5 24 5 4 := ⟨RX5, TX5, 6, rfl, by decide, inX5, tw105⟩
theorem fpX5_24_5 : FP RX5 24 5 4 false .int := ⟨RX5, TX5, 6, rfl, by decide, inX5, tw105, ⟨tyX5, tyX5_ok⟩, nmX5, rfl, by decide +kernel, fun h => absurd h (by decide)⟩
theorem flX8_107_5 : FL RX8 107 5 4 := ⟨RX5, TX5, 6, rfl, by decide, inX5, tw106⟩
theorem fpX8_107_5 : FP RX8 107 5 4 false .int := ⟨RX5, TX5, 6, rfl, by decide, inX5, tw106, ⟨tyX5, tyX5_ok⟩, nmX5, rfl, by decide +kernel, fun h => absurd h (by decide)⟩
theorem flX5_28_5 : FL RX5 28 5 5 := ⟨RX5, TX5, 6, rfl, by decide, inX5, tw107⟩
theorem fpX5_28_5 : FP RX5 28 5 5 false .int := ⟨RX5, TX5, 6, rfl, by decide, inX5, tw107, ⟨tyX5, tyX5_ok⟩, nmX5, rfl, by decide +kernel, fun h => absurd h (by decide)⟩
theorem flX1_9_1 : FL RX1 9 1 0 := ⟨RX1, TX1, 8, rfl, by decide, inX1, tw129⟩
theorem fpX1_9_1 : FP RX1 9 1 0 true (.array .int) := ⟨RX1, TX1, 8, rfl, by decide, inX1, tw129, ⟨tyX1, tyX1_ok⟩, nmX1, rfl, by decide +kernel, fun _ => rfl⟩
theorem flX8_166_1 : FL RX8 166 1 0 := ⟨RX1, TX1, 8, rfl, by decide, inX1, tw130⟩
theorem flX1_15_1 : FL RX1 15 1 1 := ⟨RX1, TX1, 8, rfl, by decide, inX1, tw131⟩
theorem fpX1_15_1 : FP RX1 15 1 1 true (.array .int) := ⟨RX1, TX1, 8, rfl, by decide, inX1, tw131, ⟨tyX1, tyX1_ok⟩, nmX1, rfl, by decide +kernel, fun _ => rfl⟩
theorem flX8_169_1 : FL RX8 169 1 1 := ⟨RX1, TX1, 8, rfl, by decide, inX1, tw132⟩
theorem flX1_18_1 : FL RX1 18 1 2 := ⟨RX1, TX1, 8, rfl, by decide, inX1, tw133⟩
theorem fpX1_18_1 : FP RX1 18 1 2 true (.array .int) := ⟨RX1, TX1, 8, rfl, by decide, inX1, tw133, ⟨tyX1, tyX1_ok⟩, nmX1, rfl, by decide +kernel, fun _ => rfl⟩
theorem flX8_160_1 : FL RX8 160 1 2 := ⟨RX1, TX1, 8, rfl, by decide, inX1, tw134⟩
theorem flX1_21_1 : FL RX1 21 1 3 := ⟨RX1, TX1, 8, rfl, by decide, inX1, tw135⟩
theorem fpX1_21_1 : FP RX1 21 1 3 true (.array .boolean) := ⟨RX1, TX1, 8, rfl, by decide, inX1, tw135, ⟨tyX1, tyX1_ok⟩, nmX1, rfl, by decide +kernel, fun _ => rfl⟩
theorem flX8_163_1 : FL RX8 163 1 3 := ⟨RX1, TX1, 8, rfl, by decide, inX1, tw136⟩
theorem flX1_25_1 : FL RX1 25 1 4 := ⟨RX1, TX1, 8, rfl, by decide, inX1, tw137⟩
theorem fpX1_25_1 : FP RX1 25 1 4 true (.array .boolean) := ⟨RX1, TX1, 8, rfl, by decide, inX1, tw137, ⟨tyX1, tyX1_ok⟩, nmX1, rfl, by decide +kernel, fun _ => rfl⟩
theorem flX8_126_1 : FL RX8 126 1 4 := ⟨RX1, TX1, 8, rfl, by decide, inX1, tw138⟩
theorem flX1_28_1 : FL RX1 28 1 5 := ⟨RX1, TX1, 8, rfl, by decide, inX1, tw139⟩
theorem fpX1_28_1 : FP RX1 28 1 5 true (.array .int) := ⟨RX1, TX1, 8, rfl, by decide, inX1, tw139, ⟨tyX1, tyX1_ok⟩, nmX1, rfl, by decide +kernel, fun _ => rfl⟩
theorem flX8_130_1 : FL RX8 130 1 5 := ⟨RX1, TX1, 8, rfl, by decide, inX1, tw140⟩
theorem flX1_31_1 : FL RX1 31 1 6 := ⟨RX1, TX1, 8, rfl, by decide, inX1, tw141⟩
theorem fpX1_31_1 : FP RX1 31 1 6 false .int := ⟨RX1, TX1, 8, rfl, by decide, inX1, tw141, ⟨tyX1, tyX1_ok⟩, nmX1, rfl, by decide +kernel, fun h => absurd h (by decide)⟩
theorem flX8_182_1 : FL RX8 182 1 6 := ⟨RX1, TX1, 8, rfl, by decide, inX1, tw142⟩
theorem fpX8_182_1 : FP RX8 182 1 6 false .int := ⟨RX1, TX1, 8, rfl, by decide, inX1, tw142, ⟨tyX1, tyX1_ok⟩, nmX1, rfl, by decide +kernel, fun h => absurd h (by decide)⟩
theorem flX1_35_1 : FL RX1 35 1 7 := ⟨RX1, TX1, 8, rfl, by decide, inX1, tw143⟩
theorem fpX1_35_1 : FP RX1 35 1 7 false .int := ⟨RX1, TX1, 8, rfl, by decide, inX1, tw143, ⟨tyX1, tyX1_ok⟩, nmX1, rfl, by decide +kernel, fun h => absurd h (by decide)⟩
theorem flX8_179_1 : FL RX8 179 1 7 := ⟨RX1, TX1, 8, rfl, by decide, inX1, tw144⟩
theorem fpX8_179_1 : FP RX8 179 1 7 false .int := ⟨RX1, TX1, 8, rfl, by decide, inX1, tw144, ⟨tyX1, tyX1_ok⟩, nmX1, rfl, by decide +kernel, fun h => absurd h (by decide)⟩
theorem flX7_7_0 : FL RX7 7 0 0 := ⟨RX0, TX0, 3, rfl, by decide, inX0, tw168⟩
theorem fpX7_7_0 : FP RX7 7 0 0 true .int := ⟨RX0, TX0, 3, rfl, by decide, inX0, tw168, ⟨tyX0, tyX0_ok⟩, nmX0, rfl, by decide +kernel, fun _ => rfl⟩
theorem flX7_7_2 : FL RX7 7 2 0 := ⟨RX2, TX2, 3, rfl, by decide, inX2, tw168⟩
theorem fpX7_7_2 : FP RX7 7 2 0 true .int := ⟨RX2, TX2, 3, rfl, by decide, inX2, tw168, ⟨tyX2, tyX2_ok⟩, nmX2, rfl, by decide +kernel, fun _ => rfl⟩
theorem flX7_7_3 : FL RX7 7 3 0 := ⟨RX3, TX3, 3, rfl, by decide, inX3, tw168⟩
theorem fpX7_7_3 : FP RX7 7 3 0 true .int := ⟨RX3, TX3, 3, rfl, by decide, inX3, tw168, ⟨tyX3, tyX3_ok⟩, nmX3, rfl, by decide +kernel, fun _ => rfl⟩
theorem flX7_7_6 : FL RX7 7 6 0 := ⟨RX6, TX6, 3, rfl, by decide, inX6, tw168⟩
theorem fpX7_7_6 : FP RX7 7 6 0 true .int := ⟨RX6, TX6, 3, rfl, by decide, inX6, tw168, ⟨tyX6, tyX6_ok⟩, nmX6, rfl, by decide +kernel, fun _ => rfl⟩
theorem flX7_7_7 : FL RX7 7 7 0 := ⟨RX7, TX7, 3, rfl, by decide, inX7, tw168⟩
theorem fpX7_7_7 : FP RX7 7 7 0 true .int := ⟨RX7, TX7, 3, rfl, by decide, inX7, tw168, ⟨tyX7, tyX7_ok⟩, nmX7, rfl, by decide +kernel, fun _ => rfl⟩
theorem flX8_141_0 : FL RX8 141 0 0 := ⟨RX0, TX0, 3, rfl, by decide, inX0, tw169⟩
theorem flX8_141_2 : FL RX8 141 2 0 := ⟨RX2, TX2, 3, rfl, by decide, inX2, tw169⟩
theorem flX8_141_3 : FL RX8 141 3 0 := ⟨RX3, TX3, 3, rfl, by decide, inX3, tw169⟩
theorem flX8_141_6 : FL RX8 141 6 0 := ⟨RX6, TX6, 3, rfl, by decide, inX6, tw169⟩
theorem flX8_141_7 : FL RX8 141 7 0 := ⟨RX7, TX7, 3, rfl, by decide, inX7, tw169⟩
theorem flX7_13_0 : FL RX7 13 0 1 := ⟨RX0, TX0, 3, rfl, by decide, inX0, tw170⟩
theorem fpX7_13_0 : FP RX7 13 0 1 true .int := ⟨RX0, TX0, 3, rfl, by decide, inX0, tw170, ⟨tyX0, tyX0_ok⟩, nmX0, rfl, by decide +kernel, fun _ => rfl⟩
theorem flX7_13_2 : FL RX7 13 2 1 := ⟨RX2, TX2, 3, rfl, by decide, inX2, tw170⟩
theorem fpX7_13_2 : FP RX7 13 2 1 true .int := ⟨RX2, TX2, 3, rfl, by decide, inX2, tw170, ⟨tyX2, tyX2_ok⟩, nmX2, rfl, by decide +kernel, fun _ => rfl⟩
theorem flX7_13_3 : FL RX7 13 3 1 := ⟨RX3, TX3, 3, rfl, by decide, inX3, tw170⟩
theorem fpX7_13_3 : FP RX7 13 3 1 true .int := ⟨RX3, TX3, 3, rfl, by decide, inX3, tw170, ⟨tyX3, tyX3_ok⟩, nmX3, rfl, by decide +kernel, fun _ => rfl⟩
theorem flX7_13_6 : FL RX7 13 6 1 := ⟨RX6, TX6, 3, rfl, by decide, inX6, tw170⟩
theorem fpX7_13_6 : FP RX7 13 6 1 true .int := ⟨RX6, TX6, 3, rfl, by decide, inX6, tw170, ⟨tyX6, tyX6_ok⟩, nmX6, rfl, by decide +kernel, fun _ => rfl⟩
theorem flX7_13_7 : FL RX7 13 7 1 := ⟨RX7, TX7, 3, rfl, by decide, inX7, tw170⟩
theorem fpX7_13_7 : FP RX7 13 7 1 true .int := ⟨RX7, TX7, 3, rfl, by decide, inX7, tw170, ⟨tyX7, tyX7_ok⟩, nmX7, rfl, by decide +kernel, fun _ => rfl⟩
theorem flX8_144_0 : FL RX8 144 0 1 := ⟨RX0, TX0, 3, rfl, by decide, inX0, tw171⟩
theorem flX8_144_2 : FL RX8 144 2 1 := ⟨RX2, TX2, 3, rfl, by decide, inX2, tw171⟩
theorem flX8_144_3 : FL RX8 144 3 1 := ⟨RX3, TX3, 3, rfl, by decide, inX3, tw171⟩
theorem flX8_144_6 : FL RX8 144 6 1 := ⟨RX6, TX6, 3, rfl, by decide, inX6, tw171⟩
theorem flX8_144_7 : FL RX8 144 7 1 := ⟨RX7, TX7, 3, rfl, by decide, inX7, tw171⟩
theorem flX7_16_0 : FL RX7 16 0 2 := ⟨RX0, TX0, 3, rfl, by decide, inX0, tw172⟩
theorem fpX7_16_0 : FP RX7 16 0 2 true .int := ⟨RX0, TX0, 3, rfl, by decide, inX0, tw172, ⟨tyX0, tyX0_ok⟩, nmX0, rfl, by decide +kernel, fun _ => rfl⟩
theorem flX7_16_2 : FL RX7 16 2 2 := ⟨RX2, TX2, 3, rfl, by decide, inX2, tw172⟩
theorem fpX7_16_2 : FP RX7 16 2 2 true .int := ⟨RX2, TX2, 3, rfl, by decide, inX2, tw172, ⟨tyX2, tyX2_ok⟩, nmX2, rfl, by decide +kernel, fun _ => rfl⟩
theorem flX7_16_3 : FL RX7 16 3 2 := ⟨RX3, TX3, 3, rfl, by decide, inX3, tw172⟩
theorem fpX7_16_3 : FP RX7 16 3 2 true .int := ⟨RX3, TX3, 3, rfl, by decide, inX3, tw172, ⟨tyX3, tyX3_ok⟩, nmX3, rfl, by decide +kernel, fun _ => rfl⟩
theorem flX7_16_6 : FL RX7 16 6 2 := ⟨RX6, TX6, 3, rfl, by decide, inX6, tw172⟩
theorem fpX7_16_6 : FP RX7 16 6 2 true .int := ⟨RX6, TX6, 3, rfl, by decide, inX6, tw172, ⟨tyX6, tyX6_ok⟩, nmX6, rfl, by decide +kernel, fun _ => rfl⟩
theorem flX7_16_7 : FL RX7 16 7 2 := ⟨RX7, TX7, 3, rfl, by decide, inX7, tw172⟩
theorem fpX7_16_7 : FP RX7 16 7 2 true .int := ⟨RX7, TX7, 3, rfl, by decide, inX7, tw172, ⟨tyX7, tyX7_ok⟩, nmX7, rfl, by decide +kernel, fun _ => rfl⟩
theorem flX8_146_0 : FL RX8 146 0 2 := ⟨RX0, TX0, 3, rfl, by decide, inX0, tw173⟩
theorem flX8_146_2 : FL RX8 146 2 2 := ⟨RX2, TX2, 3, rfl, by decide, inX2, tw173⟩
theorem flX8_146_3 : FL RX8 146 3 2 := ⟨RX3, TX3, 3, rfl, by decide, inX3, tw173⟩
theorem flX8_146_6 : FL RX8 146 6 2 := ⟨RX6, TX6, 3, rfl, by decide, inX6, tw173⟩
theorem flX8_146_7 : FL RX8 146 7 2 := ⟨RX7, TX7, 3, rfl, by decide, inX7, tw173⟩
theorem flX8_12_8 : FL RX8 12 8 0 := ⟨RX8, TX8, 18, rfl, by decide, inX8, tw182⟩
theorem fpX8_12_8 : FP RX8 12 8 0 true (.object "ThievesPaid$Page") := ⟨RX8, TX8, 18, rfl, by decide, inX8, tw182, ⟨tyX8, tyX8_ok⟩, nmX8, rfl, by decide +kernel, fun _ => rfl⟩
theorem flX8_19_8 : FL RX8 19 8 1 := ⟨RX8, TX8, 18, rfl, by decide, inX8, tw183⟩
theorem fpX8_19_8 : FP RX8 19 8 1 true (.object "ThievesPaid$Reader") := ⟨RX8, TX8, 18, rfl, by decide, inX8, tw183, ⟨tyX8, tyX8_ok⟩, nmX8, rfl, by decide +kernel, fun _ => rfl⟩
theorem flX8_25_8 : FL RX8 25 8 2 := ⟨RX8, TX8, 18, rfl, by decide, inX8, tw184⟩
theorem fpX8_25_8 : FP RX8 25 8 2 true (.array (.object "ThievesPaid$Thief")) := ⟨RX8, TX8, 18, rfl, by decide, inX8, tw184, ⟨tyX8, tyX8_ok⟩, nmX8, rfl, by decide +kernel, fun _ => rfl⟩
theorem flX8_29_8 : FL RX8 29 8 3 := ⟨RX8, TX8, 18, rfl, by decide, inX8, tw185⟩
theorem fpX8_29_8 : FP RX8 29 8 3 true (.array .int) := ⟨RX8, TX8, 18, rfl, by decide, inX8, tw185, ⟨tyX8, tyX8_ok⟩, nmX8, rfl, by decide +kernel, fun _ => rfl⟩
theorem flX8_33_8 : FL RX8 33 8 4 := ⟨RX8, TX8, 18, rfl, by decide, inX8, tw186⟩
theorem fpX8_33_8 : FP RX8 33 8 4 true (.array .int) := ⟨RX8, TX8, 18, rfl, by decide, inX8, tw186, ⟨tyX8, tyX8_ok⟩, nmX8, rfl, by decide +kernel, fun _ => rfl⟩
theorem flX8_39_8 : FL RX8 39 8 5 := ⟨RX8, TX8, 18, rfl, by decide, inX8, tw187⟩
theorem fpX8_39_8 : FP RX8 39 8 5 true (.object "ThievesPaid$City") := ⟨RX8, TX8, 18, rfl, by decide, inX8, tw187, ⟨tyX8, tyX8_ok⟩, nmX8, rfl, by decide +kernel, fun _ => rfl⟩
theorem flX8_43_8 : FL RX8 43 8 6 := ⟨RX8, TX8, 18, rfl, by decide, inX8, tw188⟩
theorem fpX8_43_8 : FP RX8 43 8 6 true (.object "ThievesPaid$City") := ⟨RX8, TX8, 18, rfl, by decide, inX8, tw188, ⟨tyX8, tyX8_ok⟩, nmX8, rfl, by decide +kernel, fun _ => rfl⟩
theorem flX8_46_8 : FL RX8 46 8 7 := ⟨RX8, TX8, 18, rfl, by decide, inX8, tw189⟩
theorem fpX8_46_8 : FP RX8 46 8 7 true (.object "ThievesPaid$City") := ⟨RX8, TX8, 18, rfl, by decide, inX8, tw189, ⟨tyX8, tyX8_ok⟩, nmX8, rfl, by decide +kernel, fun _ => rfl⟩
theorem flX8_49_8 : FL RX8 49 8 8 := ⟨RX8, TX8, 18, rfl, by decide, inX8, tw190⟩
theorem fpX8_49_8 : FP RX8 49 8 8 true (.array .long) := ⟨RX8, TX8, 18, rfl, by decide, inX8, tw190, ⟨tyX8, tyX8_ok⟩, nmX8, rfl, by decide +kernel, fun _ => rfl⟩
theorem flX8_53_8 : FL RX8 53 8 9 := ⟨RX8, TX8, 18, rfl, by decide, inX8, tw191⟩
theorem fpX8_53_8 : FP RX8 53 8 9 true (.array .int) := ⟨RX8, TX8, 18, rfl, by decide, inX8, tw191, ⟨tyX8, tyX8_ok⟩, nmX8, rfl, by decide +kernel, fun _ => rfl⟩
theorem flX8_56_8 : FL RX8 56 8 10 := ⟨RX8, TX8, 18, rfl, by decide, inX8, tw192⟩
theorem fpX8_56_8 : FP RX8 56 8 10 true (.array .int) := ⟨RX8, TX8, 18, rfl, by decide, inX8, tw192, ⟨tyX8, tyX8_ok⟩, nmX8, rfl, by decide +kernel, fun _ => rfl⟩
theorem flX8_59_8 : FL RX8 59 8 11 := ⟨RX8, TX8, 18, rfl, by decide, inX8, tw193⟩
theorem fpX8_59_8 : FP RX8 59 8 11 true (.array .int) := ⟨RX8, TX8, 18, rfl, by decide, inX8, tw193, ⟨tyX8, tyX8_ok⟩, nmX8, rfl, by decide +kernel, fun _ => rfl⟩
theorem flX8_62_8 : FL RX8 62 8 12 := ⟨RX8, TX8, 18, rfl, by decide, inX8, tw194⟩
theorem fpX8_62_8 : FP RX8 62 8 12 false .int := ⟨RX8, TX8, 18, rfl, by decide, inX8, tw194, ⟨tyX8, tyX8_ok⟩, nmX8, rfl, by decide +kernel, fun h => absurd h (by decide)⟩
theorem flX8_66_8 : FL RX8 66 8 13 := ⟨RX8, TX8, 18, rfl, by decide, inX8, tw195⟩
theorem fpX8_66_8 : FP RX8 66 8 13 false .int := ⟨RX8, TX8, 18, rfl, by decide, inX8, tw195, ⟨tyX8, tyX8_ok⟩, nmX8, rfl, by decide +kernel, fun h => absurd h (by decide)⟩
theorem flX8_69_8 : FL RX8 69 8 14 := ⟨RX8, TX8, 18, rfl, by decide, inX8, tw196⟩
theorem fpX8_69_8 : FP RX8 69 8 14 false .int := ⟨RX8, TX8, 18, rfl, by decide, inX8, tw196, ⟨tyX8, tyX8_ok⟩, nmX8, rfl, by decide +kernel, fun h => absurd h (by decide)⟩
theorem flX8_72_8 : FL RX8 72 8 15 := ⟨RX8, TX8, 18, rfl, by decide, inX8, tw197⟩
theorem fpX8_72_8 : FP RX8 72 8 15 false .boolean := ⟨RX8, TX8, 18, rfl, by decide, inX8, tw197, ⟨tyX8, tyX8_ok⟩, nmX8, rfl, by decide +kernel, fun h => absurd h (by decide)⟩
theorem flX8_76_8 : FL RX8 76 8 16 := ⟨RX8, TX8, 18, rfl, by decide, inX8, tw198⟩
theorem fpX8_76_8 : FP RX8 76 8 16 false .int := ⟨RX8, TX8, 18, rfl, by decide, inX8, tw198, ⟨tyX8, tyX8_ok⟩, nmX8, rfl, by decide +kernel, fun h => absurd h (by decide)⟩
theorem flX8_79_8 : FL RX8 79 8 17 := ⟨RX8, TX8, 18, rfl, by decide, inX8, tw199⟩
theorem fpX8_79_8 : FP RX8 79 8 17 false .int := ⟨RX8, TX8, 18, rfl, by decide, inX8, tw199, ⟨tyX8, tyX8_ok⟩, nmX8, rfl, by decide +kernel, fun h => absurd h (by decide)⟩
theorem flX9_7_9 : FL RX9 7 9 0 := ⟨RX9, TX9, 32, rfl, by decide, inX9, tw639⟩
theorem fpX9_7_9 : FP RX9 7 9 0 true (.array .int) := ⟨RX9, TX9, 32, rfl, by decide, inX9, tw639, ⟨tyX9, tyX9_ok⟩, nmX9, rfl, by decide +kernel, fun _ => rfl⟩
theorem flX9_59_9 : FL RX9 59 9 1 := ⟨RX9, TX9, 32, rfl, by decide, inX9, tw640⟩
theorem fpX9_59_9 : FP RX9 59 9 1 false .int := ⟨RX9, TX9, 32, rfl, by decide, inX9, tw640, ⟨tyX9, tyX9_ok⟩, nmX9, rfl, by decide +kernel, fun h => absurd h (by decide)⟩
theorem flX9_13_9 : FL RX9 13 9 2 := ⟨RX9, TX9, 32, rfl, by decide, inX9, tw641⟩
theorem fpX9_13_9 : FP RX9 13 9 2 true (.array .int) := ⟨RX9, TX9, 32, rfl, by decide, inX9, tw641, ⟨tyX9, tyX9_ok⟩, nmX9, rfl, by decide +kernel, fun _ => rfl⟩
theorem flX9_62_9 : FL RX9 62 9 3 := ⟨RX9, TX9, 32, rfl, by decide, inX9, tw642⟩
theorem fpX9_62_9 : FP RX9 62 9 3 false .int := ⟨RX9, TX9, 32, rfl, by decide, inX9, tw642, ⟨tyX9, tyX9_ok⟩, nmX9, rfl, by decide +kernel, fun h => absurd h (by decide)⟩
theorem flX9_65_9 : FL RX9 65 9 4 := ⟨RX9, TX9, 32, rfl, by decide, inX9, tw643⟩
theorem fpX9_65_9 : FP RX9 65 9 4 false .int := ⟨RX9, TX9, 32, rfl, by decide, inX9, tw643, ⟨tyX9, tyX9_ok⟩, nmX9, rfl, by decide +kernel, fun h => absurd h (by decide)⟩
theorem flX9_91_9 : FL RX9 91 9 5 := ⟨RX9, TX9, 32, rfl, by decide, inX9, tw644⟩
theorem fpX9_91_9 : FP RX9 91 9 5 false .int := ⟨RX9, TX9, 32, rfl, by decide, inX9, tw644, ⟨tyX9, tyX9_ok⟩, nmX9, rfl, by decide +kernel, fun h => absurd h (by decide)⟩
theorem flX9_97_9 : FL RX9 97 9 6 := ⟨RX9, TX9, 32, rfl, by decide, inX9, tw645⟩
theorem fpX9_97_9 : FP RX9 97 9 6 false .int := ⟨RX9, TX9, 32, rfl, by decide, inX9, tw645, ⟨tyX9, tyX9_ok⟩, nmX9, rfl, by decide +kernel, fun h => absurd h (by decide)⟩
theorem flX9_16_9 : FL RX9 16 9 7 := ⟨RX9, TX9, 32, rfl, by decide, inX9, tw646⟩
theorem fpX9_16_9 : FP RX9 16 9 7 true (.array .int) := ⟨RX9, TX9, 32, rfl, by decide, inX9, tw646, ⟨tyX9, tyX9_ok⟩, nmX9, rfl, by decide +kernel, fun _ => rfl⟩
theorem flX9_94_9 : FL RX9 94 9 8 := ⟨RX9, TX9, 32, rfl, by decide, inX9, tw647⟩
theorem fpX9_94_9 : FP RX9 94 9 8 false .int := ⟨RX9, TX9, 32, rfl, by decide, inX9, tw647, ⟨tyX9, tyX9_ok⟩, nmX9, rfl, by decide +kernel, fun h => absurd h (by decide)⟩
theorem flX9_19_9 : FL RX9 19 9 9 := ⟨RX9, TX9, 32, rfl, by decide, inX9, tw648⟩
theorem fpX9_19_9 : FP RX9 19 9 9 true (.array .int) := ⟨RX9, TX9, 32, rfl, by decide, inX9, tw648, ⟨tyX9, tyX9_ok⟩, nmX9, rfl, by decide +kernel, fun _ => rfl⟩
theorem flX9_113_9 : FL RX9 113 9 10 := ⟨RX9, TX9, 32, rfl, by decide, inX9, tw649⟩
theorem fpX9_113_9 : FP RX9 113 9 10 false .int := ⟨RX9, TX9, 32, rfl, by decide, inX9, tw649, ⟨tyX9, tyX9_ok⟩, nmX9, rfl, by decide +kernel, fun h => absurd h (by decide)⟩
theorem flX9_157_9 : FL RX9 157 9 11 := ⟨RX9, TX9, 32, rfl, by decide, inX9, tw650⟩
theorem fpX9_157_9 : FP RX9 157 9 11 false .int := ⟨RX9, TX9, 32, rfl, by decide, inX9, tw650, ⟨tyX9, tyX9_ok⟩, nmX9, rfl, by decide +kernel, fun h => absurd h (by decide)⟩
theorem flX9_160_9 : FL RX9 160 9 12 := ⟨RX9, TX9, 32, rfl, by decide, inX9, tw651⟩
theorem fpX9_160_9 : FP RX9 160 9 12 false .int := ⟨RX9, TX9, 32, rfl, by decide, inX9, tw651, ⟨tyX9, tyX9_ok⟩, nmX9, rfl, by decide +kernel, fun h => absurd h (by decide)⟩
theorem flX9_119_9 : FL RX9 119 9 13 := ⟨RX9, TX9, 32, rfl, by decide, inX9, tw652⟩
theorem fpX9_119_9 : FP RX9 119 9 13 false .int := ⟨RX9, TX9, 32, rfl, by decide, inX9, tw652, ⟨tyX9, tyX9_ok⟩, nmX9, rfl, by decide +kernel, fun h => absurd h (by decide)⟩
theorem flX9_22_9 : FL RX9 22 9 14 := ⟨RX9, TX9, 32, rfl, by decide, inX9, tw653⟩
theorem fpX9_22_9 : FP RX9 22 9 14 true (.array .int) := ⟨RX9, TX9, 32, rfl, by decide, inX9, tw653, ⟨tyX9, tyX9_ok⟩, nmX9, rfl, by decide +kernel, fun _ => rfl⟩
theorem flX9_25_9 : FL RX9 25 9 15 := ⟨RX9, TX9, 32, rfl, by decide, inX9, tw654⟩
theorem fpX9_25_9 : FP RX9 25 9 15 true (.array .int) := ⟨RX9, TX9, 32, rfl, by decide, inX9, tw654, ⟨tyX9, tyX9_ok⟩, nmX9, rfl, by decide +kernel, fun _ => rfl⟩
theorem flX9_28_9 : FL RX9 28 9 16 := ⟨RX9, TX9, 32, rfl, by decide, inX9, tw655⟩
theorem fpX9_28_9 : FP RX9 28 9 16 true (.array .int) := ⟨RX9, TX9, 32, rfl, by decide, inX9, tw655, ⟨tyX9, tyX9_ok⟩, nmX9, rfl, by decide +kernel, fun _ => rfl⟩
theorem flX9_31_9 : FL RX9 31 9 17 := ⟨RX9, TX9, 32, rfl, by decide, inX9, tw656⟩
theorem fpX9_31_9 : FP RX9 31 9 17 true (.array .int) := ⟨RX9, TX9, 32, rfl, by decide, inX9, tw656, ⟨tyX9, tyX9_ok⟩, nmX9, rfl, by decide +kernel, fun _ => rfl⟩
theorem flX9_34_9 : FL RX9 34 9 18 := ⟨RX9, TX9, 32, rfl, by decide, inX9, tw657⟩
theorem fpX9_34_9 : FP RX9 34 9 18 true (.array .long) := ⟨RX9, TX9, 32, rfl, by decide, inX9, tw657, ⟨tyX9, tyX9_ok⟩, nmX9, rfl, by decide +kernel, fun _ => rfl⟩
theorem flX9_38_9 : FL RX9 38 9 19 := ⟨RX9, TX9, 32, rfl, by decide, inX9, tw658⟩
theorem fpX9_38_9 : FP RX9 38 9 19 true (.array .int) := ⟨RX9, TX9, 32, rfl, by decide, inX9, tw658, ⟨tyX9, tyX9_ok⟩, nmX9, rfl, by decide +kernel, fun _ => rfl⟩
theorem flX9_41_9 : FL RX9 41 9 20 := ⟨RX9, TX9, 32, rfl, by decide, inX9, tw659⟩
theorem fpX9_41_9 : FP RX9 41 9 20 true (.array .int) := ⟨RX9, TX9, 32, rfl, by decide, inX9, tw659, ⟨tyX9, tyX9_ok⟩, nmX9, rfl, by decide +kernel, fun _ => rfl⟩
theorem flX9_213_9 : FL RX9 213 9 21 := ⟨RX9, TX9, 32, rfl, by decide, inX9, tw660⟩
theorem fpX9_213_9 : FP RX9 213 9 21 false .int := ⟨RX9, TX9, 32, rfl, by decide, inX9, tw660, ⟨tyX9, tyX9_ok⟩, nmX9, rfl, by decide +kernel, fun h => absurd h (by decide)⟩
theorem flX9_53_9 : FL RX9 53 9 22 := ⟨RX9, TX9, 32, rfl, by decide, inX9, tw661⟩
theorem fpX9_53_9 : FP RX9 53 9 22 false .int := ⟨RX9, TX9, 32, rfl, by decide, inX9, tw661, ⟨tyX9, tyX9_ok⟩, nmX9, rfl, by decide +kernel, fun h => absurd h (by decide)⟩
theorem flX9_228_9 : FL RX9 228 9 23 := ⟨RX9, TX9, 32, rfl, by decide, inX9, tw662⟩
theorem fpX9_228_9 : FP RX9 228 9 23 false .int := ⟨RX9, TX9, 32, rfl, by decide, inX9, tw662, ⟨tyX9, tyX9_ok⟩, nmX9, rfl, by decide +kernel, fun h => absurd h (by decide)⟩
theorem flX9_231_9 : FL RX9 231 9 24 := ⟨RX9, TX9, 32, rfl, by decide, inX9, tw663⟩
theorem fpX9_231_9 : FP RX9 231 9 24 false .int := ⟨RX9, TX9, 32, rfl, by decide, inX9, tw663, ⟨tyX9, tyX9_ok⟩, nmX9, rfl, by decide +kernel, fun h => absurd h (by decide)⟩
theorem flX9_234_9 : FL RX9 234 9 25 := ⟨RX9, TX9, 32, rfl, by decide, inX9, tw664⟩
theorem fpX9_234_9 : FP RX9 234 9 25 false .int := ⟨RX9, TX9, 32, rfl, by decide, inX9, tw664, ⟨tyX9, tyX9_ok⟩, nmX9, rfl, by decide +kernel, fun h => absurd h (by decide)⟩
theorem flX9_237_9 : FL RX9 237 9 26 := ⟨RX9, TX9, 32, rfl, by decide, inX9, tw665⟩
theorem fpX9_237_9 : FP RX9 237 9 26 false .int := ⟨RX9, TX9, 32, rfl, by decide, inX9, tw665, ⟨tyX9, tyX9_ok⟩, nmX9, rfl, by decide +kernel, fun h => absurd h (by decide)⟩
theorem flX9_240_9 : FL RX9 240 9 27 := ⟨RX9, TX9, 32, rfl, by decide, inX9, tw666⟩
theorem fpX9_240_9 : FP RX9 240 9 27 false .int := ⟨RX9, TX9, 32, rfl, by decide, inX9, tw666, ⟨tyX9, tyX9_ok⟩, nmX9, rfl, by decide +kernel, fun h => absurd h (by decide)⟩
theorem flX9_44_9 : FL RX9 44 9 28 := ⟨RX9, TX9, 32, rfl, by decide, inX9, tw667⟩
theorem fpX9_44_9 : FP RX9 44 9 28 true (.array .int) := ⟨RX9, TX9, 32, rfl, by decide, inX9, tw667, ⟨tyX9, tyX9_ok⟩, nmX9, rfl, by decide +kernel, fun _ => rfl⟩
theorem flX9_47_9 : FL RX9 47 9 29 := ⟨RX9, TX9, 32, rfl, by decide, inX9, tw668⟩
theorem fpX9_47_9 : FP RX9 47 9 29 true (.array .int) := ⟨RX9, TX9, 32, rfl, by decide, inX9, tw668, ⟨tyX9, tyX9_ok⟩, nmX9, rfl, by decide +kernel, fun _ => rfl⟩
theorem flX9_50_9 : FL RX9 50 9 30 := ⟨RX9, TX9, 32, rfl, by decide, inX9, tw669⟩
theorem fpX9_50_9 : FP RX9 50 9 30 true (.array .int) := ⟨RX9, TX9, 32, rfl, by decide, inX9, tw669, ⟨tyX9, tyX9_ok⟩, nmX9, rfl, by decide +kernel, fun _ => rfl⟩
theorem flX9_248_9 : FL RX9 248 9 31 := ⟨RX9, TX9, 32, rfl, by decide, inX9, tw670⟩
theorem fpX9_248_9 : FP RX9 248 9 31 false .long := ⟨RX9, TX9, 32, rfl, by decide, inX9, tw670, ⟨tyX9, tyX9_ok⟩, nmX9, rfl, by decide +kernel, fun h => absurd h (by decide)⟩
theorem nwL_7 : NW RL 7 8 18 := ⟨RX8, TX8, tyX8, rfl, inX8, tyX8_ok, tw65, tw66, tw53, by decide +kernel⟩
theorem nwX8_9 : NW RX8 9 4 2 := ⟨RX4, TX4, tyX4, rfl, inX4, tyX4_ok, tw73, tw74, tw54, by decide +kernel⟩
theorem nwX8_16 : NW RX8 16 5 6 := ⟨RX5, TX5, tyX5, rfl, inX5, tyX5_ok, tw91, tw92, tw55, by decide +kernel⟩
theorem nwX8_23 : NW RX8 23 7 3 := ⟨RX7, TX7, tyX7, rfl, inX7, tyX7_ok, tw121, tw163, tw57, by decide +kernel⟩
theorem nwX8_36 : NW RX8 36 1 8 := ⟨RX1, TX1, tyX1, rfl, inX1, tyX1_ok, tw123, tw124, tw56, by decide +kernel⟩
theorem nwX8_275 : NW RX8 275 6 3 := ⟨RX6, TX6, tyX6, rfl, inX6, tyX6_ok, tw300, tw301, tw59, by decide +kernel⟩
theorem nwX8_278 : NW RX8 278 0 3 := ⟨RX0, TX0, tyX0, rfl, inX0, tyX0_ok, tw310, tw311, tw60, by decide +kernel⟩
theorem nwX8_281 : NW RX8 281 2 3 := ⟨RX2, TX2, tyX2, rfl, inX2, tyX2_ok, tw320, tw321, tw61, by decide +kernel⟩
theorem nwX8_284 : NW RX8 284 3 3 := ⟨RX3, TX3, tyX3, rfl, inX3, tyX3_ok, tw330, tw331, tw62, by decide +kernel⟩
theorem nwL_10 : NW RL 10 9 32 := ⟨RX9, TX9, tyX9, rfl, inX9, tyX9_ok, tw633, tw634, tw58, by decide +kernel⟩
theorem ciL_9 : CI RL 9 yX8_init cX8_init 2 0 := ⟨tw67, tw68, tw53, tw69, ⟨by decide, by decide, by decide +kernel⟩, rfl⟩
theorem ciX8_11 : CIN RX8 11 yX4_init cX4_init 1 0 := ⟨tw76, tw54, tw77, ⟨by decide, by decide, by decide +kernel⟩, rfl, fun _ _ h => h.2.1.1⟩
theorem ciX8_18 : CIN RX8 18 yX5_init cX5_init 1 0 := ⟨tw94, tw55, tw95, ⟨by decide, by decide, by decide +kernel⟩, rfl, fun _ _ h => h.2.1.2.1⟩
theorem ciX8_38 : CIN RX8 38 yX1_init cX1_init 1 0 := ⟨tw126, tw56, tw127, ⟨by decide, by decide, by decide +kernel⟩, rfl, fun _ _ h => h.2.1.2.2.1⟩
theorem ciX8_82 : CI RX8 82 yX7_init cX7_init 4 3 := ⟨tw164, tw165, tw57, tw166, ⟨by decide, by decide, by decide +kernel⟩, rfl⟩
theorem cvL_15 : CV RL 15 yX8_letters cX8_letters 5 (Option.some FieldType.int) 1 8 := ⟨tw237, tw238, tw239, tw53, tw240, ⟨by decide, by decide, by decide +kernel⟩, (RX8, TX8, 18), rfl, rfl⟩
theorem csX8_85 : CS RX8 85 yX8_lettersTold cX8_lettersTold 5 (Option.some FieldType.int) 1 := ⟨tw241, tw242, tw53, tw243, ⟨by decide, by decide, by decide +kernel⟩⟩
theorem csX8_95 : CS RX8 95 yX8_byteOf cX8_byteOf 3 (Option.some FieldType.int) 2 := ⟨tw244, tw245, tw53, tw246, ⟨by decide, by decide, by decide +kernel⟩⟩
theorem cvL_20 : CV RL 20 yX8_blank cX8_blank 2 (Option.some FieldType.int) 0 8 := ⟨tw247, tw248, tw249, tw53, tw250, ⟨by decide, by decide, by decide +kernel⟩, (RX8, TX8, 18), rfl, rfl⟩
theorem cvL_25 : CV RL 25 yX8_fault cX8_fault 1 (Option.some FieldType.int) 0 8 := ⟨tw251, tw252, tw253, tw53, tw254, ⟨by decide, by decide, by decide +kernel⟩, (RX8, TX8, 18), rfl, rfl⟩
theorem cvX8_99 : CV RX8 99 yX5_readAhead cX5_readAhead 3 (Option.some FieldType.int) 1 5 := ⟨tw255, tw256, tw257, tw55, tw258, ⟨by decide, by decide, by decide +kernel⟩, (RX5, TX5, 6), rfl, rfl⟩
theorem cvX5_39 : CV RX5 39 yX5_takes cX5_takes 2 (Option.some FieldType.boolean) 1 5 := ⟨tw259, tw261, tw0, tw55, tw262, ⟨by decide, by decide, by decide +kernel⟩, (RX5, TX5, 6), rfl, rfl⟩
theorem cvX5_43 : CV RX5 43 yX5_takesStart cX5_takesStart 2 (Option.some FieldType.boolean) 1 5 := ⟨tw263, tw265, tw1, tw55, tw266, ⟨by decide, by decide, by decide +kernel⟩, (RX5, TX5, 6), rfl, rfl⟩
theorem csX5_58 : CS RX5 58 yX5_kindOf cX5_kindOf 1 (Option.some FieldType.int) 1 := ⟨tw267, tw268, tw55, tw269, ⟨by decide, by decide, by decide +kernel⟩⟩
theorem cvX5_46 : CV RX5 46 yX5_takesPayer cX5_takesPayer 2 (Option.some FieldType.boolean) 1 5 := ⟨tw270, tw272, tw2, tw55, tw273, ⟨by decide, by decide, by decide +kernel⟩, (RX5, TX5, 6), rfl, rfl⟩
theorem csX5_62 : CSN RX5 62 yX8_isHouse cX8_isHouse 1 (Option.some FieldType.boolean) 1 := ⟨tw275, tw53, tw276, ⟨by decide, by decide, by decide +kernel⟩, fun _ _ h => h.2.1.2.2.2⟩
theorem cvX5_49 : CV RX5 49 yX5_takesRobbed cX5_takesRobbed 2 (Option.some FieldType.boolean) 1 5 := ⟨tw277, tw279, tw3, tw55, tw280, ⟨by decide, by decide, by decide +kernel⟩, (RX5, TX5, 6), rfl, rfl⟩
theorem cvX5_52 : CV RX5 52 yX5_takesFee cX5_takesFee 2 (Option.some FieldType.boolean) 1 5 := ⟨tw281, tw283, tw4, tw55, tw284, ⟨by decide, by decide, by decide +kernel⟩, (RX5, TX5, 6), rfl, rfl⟩
theorem cvX5_55 : CV RX5 55 yX5_takesComma cX5_takesComma 2 (Option.some FieldType.boolean) 1 5 := ⟨tw285, tw287, tw5, tw55, tw288, ⟨by decide, by decide, by decide +kernel⟩, (RX5, TX5, 6), rfl, rfl⟩
theorem cvL_29 : CV RL 29 yX8_contracts cX8_contracts 2 (Option.some FieldType.int) 0 8 := ⟨tw289, tw290, tw291, tw53, tw292, ⟨by decide, by decide, by decide +kernel⟩, (RX8, TX8, 18), rfl, rfl⟩
theorem cvX8_103 : CV RX8 103 yX5_isAtEnd cX5_isAtEnd 1 (Option.some FieldType.boolean) 0 5 := ⟨tw293, tw294, tw295, tw55, tw296, ⟨by decide, by decide, by decide +kernel⟩, (RX5, TX5, 6), rfl, rfl⟩
theorem csX8_122 : CS RX8 122 yX8_hired cX8_hired 4 (Option.some (FieldType.object "ThievesPaid$Thief")) 4 := ⟨tw297, tw298, tw53, tw299, ⟨by decide, by decide, by decide +kernel⟩⟩
theorem ciX8_277 : CI RX8 277 yX6_init cX6_init 4 3 := ⟨tw302, tw303, tw59, tw304, ⟨by decide, by decide, by decide +kernel⟩, rfl⟩
theorem ciX6_1 : CI RX6 1 yX7_init cX7_init 4 3 := ⟨tw305, tw165, tw57, tw166, ⟨by decide, by decide, by decide +kernel⟩, rfl⟩
theorem ciX8_280 : CI RX8 280 yX0_init cX0_init 4 3 := ⟨tw312, tw313, tw60, tw314, ⟨by decide, by decide, by decide +kernel⟩, rfl⟩
theorem ciX0_1 : CI RX0 1 yX7_init cX7_init 4 3 := ⟨tw315, tw165, tw57, tw166, ⟨by decide, by decide, by decide +kernel⟩, rfl⟩
theorem ciX8_283 : CI RX8 283 yX2_init cX2_init 4 3 := ⟨tw322, tw323, tw61, tw324, ⟨by decide, by decide, by decide +kernel⟩, rfl⟩
theorem ciX2_1 : CI RX2 1 yX7_init cX7_init 4 3 := ⟨tw325, tw165, tw57, tw166, ⟨by decide, by decide, by decide +kernel⟩, rfl⟩
theorem ciX8_286 : CI RX8 286 yX3_init cX3_init 4 3 := ⟨tw332, tw333, tw62, tw334, ⟨by decide, by decide, by decide +kernel⟩, rfl⟩
theorem ciX3_1 : CI RX3 1 yX6_init cX6_init 4 3 := ⟨tw335, tw303, tw59, tw304, ⟨by decide, by decide, by decide +kernel⟩, rfl⟩
theorem cvL_33 : CV RL 33 yX8_about cX8_about 4 (Option.some FieldType.int) 2 8 := ⟨tw340, tw341, tw342, tw53, tw343, ⟨by decide, by decide, by decide +kernel⟩, (RX8, TX8, 18), rfl, rfl⟩
theorem cvX8_133 : CV RX8 133 yX8_isThief cX8_isThief 2 (Option.some FieldType.boolean) 1 8 := ⟨tw344, tw346, tw6, tw53, tw347, ⟨by decide, by decide, by decide +kernel⟩, (RX8, TX8, 18), rfl, rfl⟩
theorem cuX8_137_7 : CU RX8 137 yX7_kind yX7_kind cX7_kind 1 (Option.some FieldType.int) 0 7 := ⟨(RX7, TX7, 3), cX7_kind, 1, (Option.some FieldType.int), rfl, tw348, tw351, tw349, tw350, tw349, tw57, tw364, tw364, by decide +kernel⟩
theorem cuX8_137_6 : CU RX8 137 yX7_kind yX6_kind cX6_kind 1 (Option.some FieldType.int) 0 6 := ⟨(RX6, TX6, 3), cX7_kind, 1, (Option.some FieldType.int), rfl, tw348, tw351, tw349, tw361, tw362, tw59, tw363, tw364, by decide +kernel⟩
theorem cuX8_137_0 : CU RX8 137 yX7_kind yX0_kind cX0_kind 1 (Option.some FieldType.int) 0 0 := ⟨(RX0, TX0, 3), cX7_kind, 1, (Option.some FieldType.int), rfl, tw348, tw351, tw349, tw352, tw353, tw60, tw354, tw364, by decide +kernel⟩
theorem cuX8_137_2 : CU RX8 137 yX7_kind yX2_kind cX2_kind 1 (Option.some FieldType.int) 0 2 := ⟨(RX2, TX2, 3), cX7_kind, 1, (Option.some FieldType.int), rfl, tw348, tw351, tw349, tw355, tw356, tw61, tw357, tw364, by decide +kernel⟩
theorem cuX8_137_3 : CU RX8 137 yX7_kind yX3_kind cX3_kind 1 (Option.some FieldType.int) 0 3 := ⟨(RX3, TX3, 3), cX7_kind, 1, (Option.some FieldType.int), rfl, tw348, tw351, tw349, tw358, tw359, tw62, tw360, tw364, by decide +kernel⟩
theorem csX8_149 : CS RX8 149 yX8_asNumber cX8_asNumber 1 (Option.some FieldType.int) 1 := ⟨tw365, tw366, tw53, tw367, ⟨by decide, by decide, by decide +kernel⟩⟩
theorem cvL_38 : CV RL 38 yX8_as cX8_as 3 (Option.some FieldType.int) 2 8 := ⟨tw368, tw369, tw370, tw53, tw371, ⟨by decide, by decide, by decide +kernel⟩, (RX8, TX8, 18), rfl, rfl⟩
theorem csX8_153 : CS RX8 153 yX8_isOfKind cX8_isOfKind 2 (Option.some FieldType.boolean) 2 := ⟨tw372, tw373, tw53, tw374, ⟨by decide, by decide, by decide +kernel⟩⟩
theorem cvL_42 : CV RL 42 yX8_paid cX8_paid 4 (Option.some FieldType.int) 2 8 := ⟨tw375, tw376, tw377, tw53, tw378, ⟨by decide, by decide, by decide +kernel⟩, (RX8, TX8, 18), rfl, rfl⟩
theorem cvL_47 : CV RL 47 yX8_tenths cX8_tenths 4 (Option.some FieldType.int) 2 8 := ⟨tw379, tw380, tw381, tw53, tw382, ⟨by decide, by decide, by decide +kernel⟩, (RX8, TX8, 18), rfl, rfl⟩
theorem cvL_51 : CV RL 51 yX8_lock cX8_lock 4 (Option.some FieldType.int) 2 8 := ⟨tw383, tw384, tw385, tw53, tw386, ⟨by decide, by decide, by decide +kernel⟩, (RX8, TX8, 18), rfl, rfl⟩
theorem csX8_157 : CS RX8 157 yX8_isHouse cX8_isHouse 1 (Option.some FieldType.boolean) 1 := ⟨tw387, tw275, tw53, tw276, ⟨by decide, by decide, by decide +kernel⟩⟩
theorem cvL_55 : CV RL 55 yX8_dog cX8_dog 4 (Option.some FieldType.int) 2 8 := ⟨tw388, tw389, tw390, tw53, tw391, ⟨by decide, by decide, by decide +kernel⟩, (RX8, TX8, 18), rfl, rfl⟩
theorem cvL_59 : CV RL 59 yX8_spoon cX8_spoon 3 (Option.some FieldType.int) 2 8 := ⟨tw392, tw393, tw394, tw53, tw395, ⟨by decide, by decide, by decide +kernel⟩, (RX8, TX8, 18), rfl, rfl⟩
theorem cvL_63 : CV RL 63 yX8_silver cX8_silver 3 (Option.some FieldType.int) 2 8 := ⟨tw396, tw397, tw398, tw53, tw399, ⟨by decide, by decide, by decide +kernel⟩, (RX8, TX8, 18), rfl, rfl⟩
theorem cvX8_172 : CV RX8 172 yX8_isSpoon cX8_isSpoon 2 (Option.some FieldType.boolean) 1 8 := ⟨tw400, tw402, tw7, tw53, tw403, ⟨by decide, by decide, by decide +kernel⟩, (RX8, TX8, 18), rfl, rfl⟩
theorem cvL_67 : CV RL 67 yX8_worth cX8_worth 2 (Option.some FieldType.int) 1 8 := ⟨tw404, tw405, tw406, tw53, tw407, ⟨by decide, by decide, by decide +kernel⟩, (RX8, TX8, 18), rfl, rfl⟩
theorem cvX8_175 : CV RX8 175 yX8_worthIn cX8_worthIn 5 (Option.some FieldType.int) 2 8 := ⟨tw408, tw410, tw8, tw53, tw411, ⟨by decide, by decide, by decide +kernel⟩, (RX8, TX8, 18), rfl, rfl⟩
theorem cvL_72 : CV RL 72 yX8_month cX8_month 2 (Option.some FieldType.int) 0 8 := ⟨tw412, tw413, tw414, tw53, tw415, ⟨by decide, by decide, by decide +kernel⟩, (RX8, TX8, 18), rfl, rfl⟩
theorem cvX8_185 : CV RX8 185 yX8_monthWithout cX8_monthWithout 5 (Option.some FieldType.int) 2 8 := ⟨tw416, tw418, tw9, tw53, tw419, ⟨by decide, by decide, by decide +kernel⟩, (RX8, TX8, 18), rfl, rfl⟩
theorem cvX8_238 : CV RX8 238 yX8_visit cX8_visit 9 (Option.some FieldType.int) 2 8 := ⟨tw420, tw422, tw10, tw53, tw423, ⟨by decide, by decide, by decide +kernel⟩, (RX8, TX8, 18), rfl, rfl⟩
theorem cuX8_287_7 : CU RX8 287 yX7_robs yX7_robs cX7_robs 2 (Option.some FieldType.int) 1 7 := ⟨(RX7, TX7, 3), cX7_robs, 2, (Option.some FieldType.int), rfl, tw424, tw427, tw425, tw426, tw425, tw57, tw432, tw432, by decide +kernel⟩
theorem cuX8_287_6 : CU RX8 287 yX7_robs yX7_robs cX7_robs 2 (Option.some FieldType.int) 1 6 := ⟨(RX6, TX6, 3), cX7_robs, 2, (Option.some FieldType.int), rfl, tw424, tw427, tw425, tw431, tw425, tw57, tw432, tw432, by decide +kernel⟩
theorem cuX8_287_0 : CU RX8 287 yX7_robs yX7_robs cX7_robs 2 (Option.some FieldType.int) 1 0 := ⟨(RX0, TX0, 3), cX7_robs, 2, (Option.some FieldType.int), rfl, tw424, tw427, tw425, tw428, tw425, tw57, tw432, tw432, by decide +kernel⟩
theorem cuX8_287_2 : CU RX8 287 yX7_robs yX7_robs cX7_robs 2 (Option.some FieldType.int) 1 2 := ⟨(RX2, TX2, 3), cX7_robs, 2, (Option.some FieldType.int), rfl, tw424, tw427, tw425, tw429, tw425, tw57, tw432, tw432, by decide +kernel⟩
theorem cuX8_287_3 : CU RX8 287 yX7_robs yX7_robs cX7_robs 2 (Option.some FieldType.int) 1 3 := ⟨(RX3, TX3, 3), cX7_robs, 2, (Option.some FieldType.int), rfl, tw424, tw427, tw425, tw430, tw425, tw57, tw432, tw432, by decide +kernel⟩
theorem cuX8_290_7 : CU RX8 290 yX7_isKeptOut yX7_isKeptOut cX7_isKeptOut 3 (Option.some FieldType.boolean) 2 7 := ⟨(RX7, TX7, 3), cX7_isKeptOut, 3, (Option.some FieldType.boolean), rfl, tw433, tw436, tw434, tw435, tw434, tw57, tw443, tw443, by decide +kernel⟩
theorem cuX8_290_6 : CU RX8 290 yX7_isKeptOut yX7_isKeptOut cX7_isKeptOut 3 (Option.some FieldType.boolean) 2 6 := ⟨(RX6, TX6, 3), cX7_isKeptOut, 3, (Option.some FieldType.boolean), rfl, tw433, tw436, tw434, tw442, tw434, tw57, tw443, tw443, by decide +kernel⟩
theorem cuX8_290_0 : CU RX8 290 yX7_isKeptOut yX7_isKeptOut cX7_isKeptOut 3 (Option.some FieldType.boolean) 2 0 := ⟨(RX0, TX0, 3), cX7_isKeptOut, 3, (Option.some FieldType.boolean), rfl, tw433, tw436, tw434, tw437, tw434, tw57, tw443, tw443, by decide +kernel⟩
theorem cuX8_290_2 : CU RX8 290 yX7_isKeptOut yX7_isKeptOut cX7_isKeptOut 3 (Option.some FieldType.boolean) 2 2 := ⟨(RX2, TX2, 3), cX7_isKeptOut, 3, (Option.some FieldType.boolean), rfl, tw433, tw436, tw434, tw438, tw434, tw57, tw443, tw443, by decide +kernel⟩
theorem cuX8_290_3 : CU RX8 290 yX7_isKeptOut yX3_isKeptOut cX3_isKeptOut 3 (Option.some FieldType.boolean) 2 3 := ⟨(RX3, TX3, 3), cX7_isKeptOut, 3, (Option.some FieldType.boolean), rfl, tw433, tw436, tw434, tw439, tw440, tw62, tw441, tw443, by decide +kernel⟩
theorem cuX8_294_7 : CU RX8 294 yX7_mostTaken yX7_mostTaken cX7_mostTaken 1 (Option.some FieldType.int) 0 7 := ⟨(RX7, TX7, 3), cX7_mostTaken, 1, (Option.some FieldType.int), rfl, tw444, tw447, tw445, tw446, tw445, tw57, tw456, tw456, by decide +kernel⟩
theorem cuX8_294_6 : CU RX8 294 yX7_mostTaken yX6_mostTaken cX6_mostTaken 1 (Option.some FieldType.int) 0 6 := ⟨(RX6, TX6, 3), cX7_mostTaken, 1, (Option.some FieldType.int), rfl, tw444, tw447, tw445, tw455, tw453, tw59, tw454, tw456, by decide +kernel⟩
theorem cuX8_294_0 : CU RX8 294 yX7_mostTaken yX7_mostTaken cX7_mostTaken 1 (Option.some FieldType.int) 0 0 := ⟨(RX0, TX0, 3), cX7_mostTaken, 1, (Option.some FieldType.int), rfl, tw444, tw447, tw445, tw448, tw445, tw57, tw456, tw456, by decide +kernel⟩
theorem cuX8_294_2 : CU RX8 294 yX7_mostTaken yX2_mostTaken cX2_mostTaken 1 (Option.some FieldType.int) 0 2 := ⟨(RX2, TX2, 3), cX7_mostTaken, 1, (Option.some FieldType.int), rfl, tw444, tw447, tw445, tw449, tw450, tw61, tw451, tw456, by decide +kernel⟩
theorem cuX8_294_3 : CU RX8 294 yX7_mostTaken yX6_mostTaken cX6_mostTaken 1 (Option.some FieldType.int) 0 3 := ⟨(RX3, TX3, 3), cX7_mostTaken, 1, (Option.some FieldType.int), rfl, tw444, tw447, tw445, tw452, tw453, tw59, tw454, tw456, by decide +kernel⟩
theorem cvX8_297 : CV RX8 297 yX8_picked cX8_picked 6 (Option.some FieldType.int) 3 8 := ⟨tw457, tw459, tw11, tw53, tw460, ⟨by decide, by decide, by decide +kernel⟩, (RX8, TX8, 18), rfl, rfl⟩
theorem cuX8_301_7 : CU RX8 301 yX7_likesBetter yX7_likesBetter cX7_likesBetter 3 (Option.some FieldType.boolean) 2 7 := ⟨(RX7, TX7, 3), cX7_likesBetter, 3, (Option.some FieldType.boolean), rfl, tw461, tw464, tw462, tw463, tw462, tw57, tw471, tw471, by decide +kernel⟩
theorem cuX8_301_6 : CU RX8 301 yX7_likesBetter yX7_likesBetter cX7_likesBetter 3 (Option.some FieldType.boolean) 2 6 := ⟨(RX6, TX6, 3), cX7_likesBetter, 3, (Option.some FieldType.boolean), rfl, tw461, tw464, tw462, tw470, tw462, tw57, tw471, tw471, by decide +kernel⟩
theorem cuX8_301_0 : CU RX8 301 yX7_likesBetter yX0_likesBetter cX0_likesBetter 3 (Option.some FieldType.boolean) 2 0 := ⟨(RX0, TX0, 3), cX7_likesBetter, 3, (Option.some FieldType.boolean), rfl, tw461, tw464, tw462, tw465, tw466, tw60, tw467, tw471, by decide +kernel⟩
theorem cuX8_301_2 : CU RX8 301 yX7_likesBetter yX7_likesBetter cX7_likesBetter 3 (Option.some FieldType.boolean) 2 2 := ⟨(RX2, TX2, 3), cX7_likesBetter, 3, (Option.some FieldType.boolean), rfl, tw461, tw464, tw462, tw468, tw462, tw57, tw471, tw471, by decide +kernel⟩
theorem cuX8_301_3 : CU RX8 301 yX7_likesBetter yX7_likesBetter cX7_likesBetter 3 (Option.some FieldType.boolean) 2 3 := ⟨(RX3, TX3, 3), cX7_likesBetter, 3, (Option.some FieldType.boolean), rfl, tw461, tw464, tw462, tw469, tw462, tw57, tw471, tw471, by decide +kernel⟩
theorem cvX8_241 : CV RX8 241 yX1_lapseLocks cX1_lapseLocks 2 none 0 1 := ⟨tw472, tw473, tw474, tw56, tw475, ⟨by decide, by decide, by decide +kernel⟩, (RX1, TX1, 8), rfl, rfl⟩
theorem cvL_76 : CV RL 76 yX8_where cX8_where 4 (Option.some FieldType.int) 2 8 := ⟨tw479, tw480, tw481, tw53, tw482, ⟨by decide, by decide, by decide +kernel⟩, (RX8, TX8, 18), rfl, rfl⟩
theorem cvX8_188 : CV RX8 188 yX1_takeOver cX1_takeOver 3 none 1 1 := ⟨tw483, tw484, tw485, tw56, tw486, ⟨by decide, by decide, by decide +kernel⟩, (RX1, TX1, 8), rfl, rfl⟩
theorem cvL_80 : CV RL 80 yX8_chance cX8_chance 11 (Option.some FieldType.long) 4 8 := ⟨tw487, tw488, tw489, tw53, tw490, ⟨by decide, by decide, by decide +kernel⟩, (RX8, TX8, 18), rfl, rfl⟩
theorem cvX8_198 : CV RX8 198 yX8_spreadOdds cX8_spreadOdds 7 (Option.some FieldType.long) 2 8 := ⟨tw494, tw496, tw12, tw53, tw497, ⟨by decide, by decide, by decide +kernel⟩, (RX8, TX8, 18), rfl, rfl⟩
theorem cvX8_312 : CV RX8 312 yX8_spreadBy cX8_spreadBy 9 none 1 8 := ⟨tw498, tw500, tw13, tw53, tw501, ⟨by decide, by decide, by decide +kernel⟩, (RX8, TX8, 18), rfl, rfl⟩
theorem csX8_202 : CS RX8 202 yX8_greatestDivisor cX8_greatestDivisor 7 (Option.some FieldType.long) 2 := ⟨tw503, tw504, tw53, tw505, ⟨by decide, by decide, by decide +kernel⟩⟩
theorem cvL_85 : CV RL 85 yX8_whom cX8_whom 5 (Option.some FieldType.int) 3 8 := ⟨tw506, tw507, tw508, tw53, tw509, ⟨by decide, by decide, by decide +kernel⟩, (RX8, TX8, 18), rfl, rfl⟩
theorem cvX8_209 : CV RX8 209 yX8_bestSet cX8_bestSet 8 (Option.some FieldType.int) 2 8 := ⟨tw513, tw515, tw14, tw53, tw516, ⟨by decide, by decide, by decide +kernel⟩, (RX8, TX8, 18), rfl, rfl⟩
theorem cvX8_318 : CV RX8 318 yX8_couldBePaidBy cX8_couldBePaidBy 4 (Option.some FieldType.int) 1 8 := ⟨tw517, tw519, tw15, tw53, tw520, ⟨by decide, by decide, by decide +kernel⟩, (RX8, TX8, 18), rfl, rfl⟩
theorem cvX8_213 : CV RX8 213 yX8_leftBy cX8_leftBy 6 (Option.some FieldType.int) 3 8 := ⟨tw521, tw523, tw16, tw53, tw524, ⟨by decide, by decide, by decide +kernel⟩, (RX8, TX8, 18), rfl, rfl⟩
theorem csX8_321 : CS RX8 321 yJ6_bitCount_0f7a4 cJ6_bitCount_0f7a4 1 (Option.some FieldType.int) 1 := ⟨tw525, tw526, tw64, tw527, ⟨by decide, by decide, by decide +kernel⟩⟩
theorem cvL_90 : CV RL 90 yX8_still cX8_still 2 (Option.some FieldType.int) 0 8 := ⟨tw531, tw532, tw533, tw53, tw534, ⟨by decide, by decide, by decide +kernel⟩, (RX8, TX8, 18), rfl, rfl⟩
theorem cvL_94 : CV RL 94 yX8_seen cX8_seen 4 (Option.some FieldType.int) 2 8 := ⟨tw535, tw536, tw537, tw53, tw538, ⟨by decide, by decide, by decide +kernel⟩, (RX8, TX8, 18), rfl, rfl⟩
theorem cvL_98 : CV RL 98 yX8_who cX8_who 3 (Option.some FieldType.int) 0 8 := ⟨tw539, tw540, tw541, tw53, tw542, ⟨by decide, by decide, by decide +kernel⟩, (RX8, TX8, 18), rfl, rfl⟩
theorem cvX8_217 : CV RX8 217 yX8_wouldBeAsSeen cX8_wouldBeAsSeen 3 (Option.some FieldType.boolean) 1 8 := ⟨tw543, tw545, tw17, tw53, tw546, ⟨by decide, by decide, by decide +kernel⟩, (RX8, TX8, 18), rfl, rfl⟩
theorem cvL_102 : CV RL 102 yX8_owes cX8_owes 5 (Option.some FieldType.int) 2 8 := ⟨tw547, tw548, tw549, tw53, tw550, ⟨by decide, by decide, by decide +kernel⟩, (RX8, TX8, 18), rfl, rfl⟩
theorem cvL_106 : CV RL 106 yX8_fewest cX8_fewest 2 (Option.some FieldType.int) 0 8 := ⟨tw551, tw552, tw553, tw53, tw554, ⟨by decide, by decide, by decide +kernel⟩, (RX8, TX8, 18), rfl, rfl⟩
theorem cvX8_220 : CV RX8 220 yX8_netAll cX8_netAll 2 none 0 8 := ⟨tw555, tw557, tw18, tw53, tw558, ⟨by decide, by decide, by decide +kernel⟩, (RX8, TX8, 18), rfl, rfl⟩
theorem csX8_223 : CS RX8 223 yJ6_numberOfTrailingZeros_0f7a4 cJ6_numberOfTrailingZeros_0f7a4 2 (Option.some FieldType.int) 1 := ⟨tw559, tw560, tw64, tw561, ⟨by decide, by decide, by decide +kernel⟩⟩
theorem cvX8_229 : CV RX8 229 yX8_mostGroupsWithOneLess cX8_mostGroupsWithOneLess 4 (Option.some FieldType.int) 1 8 := ⟨tw563, tw565, tw19, tw53, tw566, ⟨by decide, by decide, by decide +kernel⟩, (RX8, TX8, 18), rfl, rfl⟩
theorem cvL_110 : CV RL 110 yX8_months cX8_months 8 (Option.some FieldType.int) 3 8 := ⟨tw568, tw569, tw570, tw53, tw571, ⟨by decide, by decide, by decide +kernel⟩, (RX8, TX8, 18), rfl, rfl⟩
theorem csX8_232 : CS RX8 232 yX8_nextSeed cX8_nextSeed 1 (Option.some FieldType.int) 1 := ⟨tw572, tw573, tw53, tw574, ⟨by decide, by decide, by decide +kernel⟩⟩
theorem csX8_235 : CS RX8 235 yX8_drawOfTen cX8_drawOfTen 1 (Option.some FieldType.int) 1 := ⟨tw578, tw579, tw53, tw580, ⟨by decide, by decide, by decide +kernel⟩⟩
theorem cvX8_244 : CV RX8 244 yX8_worthAtHome cX8_worthAtHome 4 (Option.some FieldType.int) 1 8 := ⟨tw582, tw584, tw20, tw53, tw585, ⟨by decide, by decide, by decide +kernel⟩, (RX8, TX8, 18), rfl, rfl⟩
theorem cvL_114 : CV RL 114 yX8_image cX8_image 1 (Option.some FieldType.int) 0 8 := ⟨tw586, tw587, tw588, tw53, tw589, ⟨by decide, by decide, by decide +kernel⟩, (RX8, TX8, 18), rfl, rfl⟩
theorem cvL_118 : CV RL 118 yX8_restore cX8_restore 1 (Option.some FieldType.int) 0 8 := ⟨tw590, tw591, tw592, tw53, tw593, ⟨by decide, by decide, by decide +kernel⟩, (RX8, TX8, 18), rfl, rfl⟩
theorem cvL_122 : CV RL 122 yX8_count cX8_count 2 (Option.some FieldType.int) 1 8 := ⟨tw594, tw595, tw596, tw53, tw597, ⟨by decide, by decide, by decide +kernel⟩, (RX8, TX8, 18), rfl, rfl⟩
theorem cvX8_248 : CV RX8 248 yX8_spoonsAway cX8_spoonsAway 3 (Option.some FieldType.int) 0 8 := ⟨tw598, tw600, tw21, tw53, tw601, ⟨by decide, by decide, by decide +kernel⟩, (RX8, TX8, 18), rfl, rfl⟩
theorem cvL_126 : CV RL 126 yX8_digest cX8_digest 4 (Option.some FieldType.long) 0 8 := ⟨tw602, tw603, tw604, tw53, tw605, ⟨by decide, by decide, by decide +kernel⟩, (RX8, TX8, 18), rfl, rfl⟩
theorem cvX8_253 : CV RX8 253 yX8_withThieves cX8_withThieves 7 (Option.some FieldType.long) 1 8 := ⟨tw607, tw609, tw22, tw53, tw610, ⟨by decide, by decide, by decide +kernel⟩, (RX8, TX8, 18), rfl, rfl⟩
theorem cvX8_331 : CV RX8 331 yX8_about cX8_about 4 (Option.some FieldType.int) 2 8 := ⟨tw611, tw341, tw342, tw53, tw343, ⟨by decide, by decide, by decide +kernel⟩, (RX8, TX8, 18), rfl, rfl⟩
theorem csX8_266 : CS RX8 266 yX8_with cX8_with 4 (Option.some FieldType.long) 2 := ⟨tw612, tw613, tw53, tw614, ⟨by decide, by decide, by decide +kernel⟩⟩
theorem cvX8_257 : CV RX8 257 yX8_withHouses cX8_withHouses 6 (Option.some FieldType.long) 1 8 := ⟨tw616, tw618, tw23, tw53, tw619, ⟨by decide, by decide, by decide +kernel⟩, (RX8, TX8, 18), rfl, rfl⟩
theorem cvX8_260 : CV RX8 260 yX8_withSpoons cX8_withSpoons 7 (Option.some FieldType.long) 1 8 := ⟨tw620, tw622, tw24, tw53, tw623, ⟨by decide, by decide, by decide +kernel⟩, (RX8, TX8, 18), rfl, rfl⟩
theorem cvX8_334 : CV RX8 334 yX8_silver cX8_silver 3 (Option.some FieldType.int) 2 8 := ⟨tw624, tw397, tw398, tw53, tw399, ⟨by decide, by decide, by decide +kernel⟩, (RX8, TX8, 18), rfl, rfl⟩
theorem cvX8_263 : CV RX8 263 yX8_fewest cX8_fewest 2 (Option.some FieldType.int) 0 8 := ⟨tw625, tw552, tw553, tw53, tw554, ⟨by decide, by decide, by decide +kernel⟩, (RX8, TX8, 18), rfl, rfl⟩
theorem cvX8_269 : CV RX8 269 yX8_withOutlook cX8_withOutlook 7 (Option.some FieldType.long) 1 8 := ⟨tw626, tw628, tw25, tw53, tw629, ⟨by decide, by decide, by decide +kernel⟩, (RX8, TX8, 18), rfl, rfl⟩
theorem cvX8_337 : CV RX8 337 yX8_still cX8_still 2 (Option.some FieldType.int) 0 8 := ⟨tw630, tw532, tw533, tw53, tw534, ⟨by decide, by decide, by decide +kernel⟩, (RX8, TX8, 18), rfl, rfl⟩
theorem cvX8_340 : CV RX8 340 yX8_who cX8_who 3 (Option.some FieldType.int) 0 8 := ⟨tw631, tw540, tw541, tw53, tw542, ⟨by decide, by decide, by decide +kernel⟩, (RX8, TX8, 18), rfl, rfl⟩
theorem cvX8_272 : CV RX8 272 yX8_count cX8_count 2 (Option.some FieldType.int) 1 8 := ⟨tw632, tw595, tw596, tw53, tw597, ⟨by decide, by decide, by decide +kernel⟩, (RX8, TX8, 18), rfl, rfl⟩
theorem ciL_12 : CI RL 12 yX9_init cX9_init 1 0 := ⟨tw635, tw636, tw58, tw637, ⟨by decide, by decide, by decide +kernel⟩, rfl⟩
theorem cvL_19 : CV RL 19 yX9_letters cX9_letters 9 (Option.some FieldType.int) 1 9 := ⟨tw736, tw737, tw738, tw58, tw739, ⟨by decide, by decide, by decide +kernel⟩, (RX9, TX9, 32), rfl, rfl⟩
theorem cvL_24 : CV RL 24 yX9_blank cX9_blank 2 (Option.some FieldType.int) 0 9 := ⟨tw741, tw742, tw743, tw58, tw744, ⟨by decide, by decide, by decide +kernel⟩, (RX9, TX9, 32), rfl, rfl⟩
theorem cvL_28 : CV RL 28 yX9_fault cX9_fault 1 (Option.some FieldType.int) 0 9 := ⟨tw745, tw746, tw747, tw58, tw748, ⟨by decide, by decide, by decide +kernel⟩, (RX9, TX9, 32), rfl, rfl⟩
theorem cvX9_87 : CV RX9 87 yX9_faultOf cX9_faultOf 2 (Option.some FieldType.int) 0 9 := ⟨tw749, tw751, tw26, tw58, tw752, ⟨by decide, by decide, by decide +kernel⟩, (RX9, TX9, 32), rfl, rfl⟩
theorem cvX9_84 : CV RX9 84 yX9_go cX9_go 2 (Option.some FieldType.boolean) 1 9 := ⟨tw753, tw755, tw27, tw58, tw756, ⟨by decide, by decide, by decide +kernel⟩, (RX9, TX9, 32), rfl, rfl⟩
theorem csX9_76 : CS RX9 76 yX9_kindOf cX9_kindOf 1 (Option.some FieldType.int) 1 := ⟨tw757, tw758, tw58, tw759, ⟨by decide, by decide, by decide +kernel⟩⟩
theorem cvX9_80 : CV RX9 80 yX9_goDigit cX9_goDigit 5 (Option.some FieldType.boolean) 1 9 := ⟨tw760, tw762, tw28, tw58, tw763, ⟨by decide, by decide, by decide +kernel⟩, (RX9, TX9, 32), rfl, rfl⟩
theorem csX9_70 : CS RX9 70 yX9_in cX9_in 6 (Option.some FieldType.boolean) 3 := ⟨tw765, tw766, tw58, tw767, ⟨by decide, by decide, by decide +kernel⟩⟩
theorem cvL_32 : CV RL 32 yX9_contracts cX9_contracts 2 (Option.some FieldType.int) 0 9 := ⟨tw769, tw770, tw771, tw58, tw772, ⟨by decide, by decide, by decide +kernel⟩, (RX9, TX9, 32), rfl, rfl⟩
theorem cvL_37 : CV RL 37 yX9_about cX9_about 3 (Option.some FieldType.int) 2 9 := ⟨tw773, tw774, tw775, tw58, tw776, ⟨by decide, by decide, by decide +kernel⟩, (RX9, TX9, 32), rfl, rfl⟩
theorem cvX9_102 : CV RX9 102 yX9_isThief cX9_isThief 2 (Option.some FieldType.boolean) 1 9 := ⟨tw777, tw779, tw29, tw58, tw780, ⟨by decide, by decide, by decide +kernel⟩, (RX9, TX9, 32), rfl, rfl⟩
theorem cvX9_105 : CV RX9 105 yX9_tell cX9_tell 3 (Option.some FieldType.int) 2 9 := ⟨tw781, tw783, tw30, tw58, tw784, ⟨by decide, by decide, by decide +kernel⟩, (RX9, TX9, 32), rfl, rfl⟩
theorem cvL_41 : CV RL 41 yX9_as cX9_as 5 (Option.some FieldType.int) 2 9 := ⟨tw786, tw787, tw788, tw58, tw789, ⟨by decide, by decide, by decide +kernel⟩, (RX9, TX9, 32), rfl, rfl⟩
theorem cvL_46 : CV RL 46 yX9_paid cX9_paid 4 (Option.some FieldType.int) 2 9 := ⟨tw791, tw792, tw793, tw58, tw794, ⟨by decide, by decide, by decide +kernel⟩, (RX9, TX9, 32), rfl, rfl⟩
theorem cvL_50 : CV RL 50 yX9_tenths cX9_tenths 4 (Option.some FieldType.int) 2 9 := ⟨tw795, tw796, tw797, tw58, tw798, ⟨by decide, by decide, by decide +kernel⟩, (RX9, TX9, 32), rfl, rfl⟩
theorem cvL_54 : CV RL 54 yX9_lock cX9_lock 4 (Option.some FieldType.int) 2 9 := ⟨tw800, tw801, tw802, tw58, tw803, ⟨by decide, by decide, by decide +kernel⟩, (RX9, TX9, 32), rfl, rfl⟩
theorem csX9_116 : CS RX9 116 yX9_isHouse cX9_isHouse 1 (Option.some FieldType.boolean) 1 := ⟨tw804, tw805, tw58, tw806, ⟨by decide, by decide, by decide +kernel⟩⟩
theorem cvL_58 : CV RL 58 yX9_dog cX9_dog 4 (Option.some FieldType.int) 2 9 := ⟨tw807, tw808, tw809, tw58, tw810, ⟨by decide, by decide, by decide +kernel⟩, (RX9, TX9, 32), rfl, rfl⟩
theorem cvL_62 : CV RL 62 yX9_spoon cX9_spoon 3 (Option.some FieldType.int) 2 9 := ⟨tw811, tw812, tw813, tw58, tw814, ⟨by decide, by decide, by decide +kernel⟩, (RX9, TX9, 32), rfl, rfl⟩
theorem cvL_66 : CV RL 66 yX9_silver cX9_silver 3 (Option.some FieldType.int) 2 9 := ⟨tw816, tw817, tw818, tw58, tw819, ⟨by decide, by decide, by decide +kernel⟩, (RX9, TX9, 32), rfl, rfl⟩
theorem cvX9_124 : CV RX9 124 yX9_isSpoon cX9_isSpoon 2 (Option.some FieldType.boolean) 1 9 := ⟨tw820, tw822, tw31, tw58, tw823, ⟨by decide, by decide, by decide +kernel⟩, (RX9, TX9, 32), rfl, rfl⟩
theorem cvL_71 : CV RL 71 yX9_worth cX9_worth 2 (Option.some FieldType.int) 1 9 := ⟨tw824, tw825, tw826, tw58, tw827, ⟨by decide, by decide, by decide +kernel⟩, (RX9, TX9, 32), rfl, rfl⟩
theorem cvX9_127 : CV RX9 127 yX9_worthOf cX9_worthOf 4 (Option.some FieldType.int) 1 9 := ⟨tw828, tw830, tw32, tw58, tw831, ⟨by decide, by decide, by decide +kernel⟩, (RX9, TX9, 32), rfl, rfl⟩
theorem cvL_75 : CV RL 75 yX9_month cX9_month 3 (Option.some FieldType.int) 0 9 := ⟨tw832, tw833, tw834, tw58, tw835, ⟨by decide, by decide, by decide +kernel⟩, (RX9, TX9, 32), rfl, rfl⟩
theorem cvX9_147 : CV RX9 147 yX9_lacks cX9_lacks 1 (Option.some FieldType.boolean) 0 9 := ⟨tw836, tw838, tw33, tw58, tw839, ⟨by decide, by decide, by decide +kernel⟩, (RX9, TX9, 32), rfl, rfl⟩
theorem cvX9_151 : CV RX9 151 yX9_begin cX9_begin 2 none 0 9 := ⟨tw840, tw842, tw34, tw58, tw843, ⟨by decide, by decide, by decide +kernel⟩, (RX9, TX9, 32), rfl, rfl⟩
theorem cvX9_154 : CV RX9 154 yX9_pass cX9_pass 6 (Option.some FieldType.int) 2 9 := ⟨tw844, tw846, tw35, tw58, tw847, ⟨by decide, by decide, by decide +kernel⟩, (RX9, TX9, 32), rfl, rfl⟩
theorem cvX9_144 : CV RX9 144 yX9_visit cX9_visit 8 (Option.some FieldType.int) 2 9 := ⟨tw848, tw850, tw36, tw58, tw851, ⟨by decide, by decide, by decide +kernel⟩, (RX9, TX9, 32), rfl, rfl⟩
theorem cvX9_130 : CV RX9 130 yX9_fromOf cX9_fromOf 3 (Option.some FieldType.int) 2 9 := ⟨tw852, tw854, tw37, tw58, tw855, ⟨by decide, by decide, by decide +kernel⟩, (RX9, TX9, 32), rfl, rfl⟩
theorem cvX9_133 : CV RX9 133 yX9_mayTake cX9_mayTake 4 (Option.some FieldType.boolean) 2 9 := ⟨tw856, tw858, tw38, tw58, tw859, ⟨by decide, by decide, by decide +kernel⟩, (RX9, TX9, 32), rfl, rfl⟩
theorem cvX9_137 : CV RX9 137 yX9_pick cX9_pick 7 (Option.some FieldType.int) 2 9 := ⟨tw860, tw862, tw39, tw58, tw863, ⟨by decide, by decide, by decide +kernel⟩, (RX9, TX9, 32), rfl, rfl⟩
theorem cvX9_141 : CV RX9 141 yX9_toOf cX9_toOf 3 (Option.some FieldType.int) 2 9 := ⟨tw864, tw866, tw40, tw58, tw867, ⟨by decide, by decide, by decide +kernel⟩, (RX9, TX9, 32), rfl, rfl⟩
theorem cvL_79 : CV RL 79 yX9_where cX9_where 5 (Option.some FieldType.int) 2 9 := ⟨tw868, tw869, tw870, tw58, tw871, ⟨by decide, by decide, by decide +kernel⟩, (RX9, TX9, 32), rfl, rfl⟩
theorem cvL_84 : CV RL 84 yX9_chance cX9_chance 13 (Option.some FieldType.long) 4 9 := ⟨tw873, tw874, tw875, tw58, tw876, ⟨by decide, by decide, by decide +kernel⟩, (RX9, TX9, 32), rfl, rfl⟩
theorem csX9_173 : CS RX9 173 yX9_term cX9_term 11 (Option.some FieldType.long) 3 := ⟨tw881, tw882, tw58, tw883, ⟨by decide, by decide, by decide +kernel⟩⟩
theorem cvL_89 : CV RL 89 yX9_whom cX9_whom 4 (Option.some FieldType.int) 3 9 := ⟨tw884, tw885, tw886, tw58, tw887, ⟨by decide, by decide, by decide +kernel⟩, (RX9, TX9, 32), rfl, rfl⟩
theorem cvX9_189 : CV RX9 189 yX9_whomOf cX9_whomOf 11 (Option.some FieldType.int) 3 9 := ⟨tw892, tw894, tw41, tw58, tw895, ⟨by decide, by decide, by decide +kernel⟩, (RX9, TX9, 32), rfl, rfl⟩
theorem cvX9_178 : CV RX9 178 yX9_inHouse cX9_inHouse 4 (Option.some FieldType.int) 1 9 := ⟨tw897, tw899, tw42, tw58, tw900, ⟨by decide, by decide, by decide +kernel⟩, (RX9, TX9, 32), rfl, rfl⟩
theorem csX9_181 : CS RX9 181 yX9_ones cX9_ones 3 (Option.some FieldType.int) 1 := ⟨tw901, tw902, tw58, tw903, ⟨by decide, by decide, by decide +kernel⟩⟩
theorem cvL_93 : CV RL 93 yX9_still cX9_still 1 (Option.some FieldType.int) 0 9 := ⟨tw904, tw905, tw906, tw58, tw907, ⟨by decide, by decide, by decide +kernel⟩, (RX9, TX9, 32), rfl, rfl⟩
theorem cvX9_193 : CV RX9 193 yX9_stillOf cX9_stillOf 2 (Option.some FieldType.int) 0 9 := ⟨tw908, tw910, tw43, tw58, tw911, ⟨by decide, by decide, by decide +kernel⟩, (RX9, TX9, 32), rfl, rfl⟩
theorem cvL_97 : CV RL 97 yX9_seen cX9_seen 4 (Option.some FieldType.int) 2 9 := ⟨tw912, tw913, tw914, tw58, tw915, ⟨by decide, by decide, by decide +kernel⟩, (RX9, TX9, 32), rfl, rfl⟩
theorem cvL_101 : CV RL 101 yX9_who cX9_who 1 (Option.some FieldType.int) 0 9 := ⟨tw916, tw917, tw918, tw58, tw919, ⟨by decide, by decide, by decide +kernel⟩, (RX9, TX9, 32), rfl, rfl⟩
theorem cvX9_199 : CV RX9 199 yX9_whoOf cX9_whoOf 3 (Option.some FieldType.int) 0 9 := ⟨tw920, tw922, tw44, tw58, tw923, ⟨by decide, by decide, by decide +kernel⟩, (RX9, TX9, 32), rfl, rfl⟩
theorem cvX9_196 : CV RX9 196 yX9_isSeenSo cX9_isSeenSo 5 (Option.some FieldType.boolean) 1 9 := ⟨tw924, tw926, tw45, tw58, tw927, ⟨by decide, by decide, by decide +kernel⟩, (RX9, TX9, 32), rfl, rfl⟩
theorem cvL_105 : CV RL 105 yX9_owes cX9_owes 3 (Option.some FieldType.int) 2 9 := ⟨tw928, tw929, tw930, tw58, tw931, ⟨by decide, by decide, by decide +kernel⟩, (RX9, TX9, 32), rfl, rfl⟩
theorem cvX9_202 : CV RX9 202 yX9_owesOf cX9_owesOf 5 (Option.some FieldType.int) 2 9 := ⟨tw932, tw934, tw46, tw58, tw935, ⟨by decide, by decide, by decide +kernel⟩, (RX9, TX9, 32), rfl, rfl⟩
theorem cvL_109 : CV RL 109 yX9_fewest cX9_fewest 1 (Option.some FieldType.int) 0 9 := ⟨tw936, tw937, tw938, tw58, tw939, ⟨by decide, by decide, by decide +kernel⟩, (RX9, TX9, 32), rfl, rfl⟩
theorem cvX9_208 : CV RX9 208 yX9_fewestOf cX9_fewestOf 4 (Option.some FieldType.int) 0 9 := ⟨tw940, tw942, tw47, tw58, tw943, ⟨by decide, by decide, by decide +kernel⟩, (RX9, TX9, 32), rfl, rfl⟩
theorem cvX9_205 : CV RX9 205 yX9_balance cX9_balance 4 (Option.some FieldType.int) 1 9 := ⟨tw944, tw946, tw48, tw58, tw947, ⟨by decide, by decide, by decide +kernel⟩, (RX9, TX9, 32), rfl, rfl⟩
theorem cvL_113 : CV RL 113 yX9_months cX9_months 8 (Option.some FieldType.int) 3 9 := ⟨tw948, tw949, tw950, tw58, tw951, ⟨by decide, by decide, by decide +kernel⟩, (RX9, TX9, 32), rfl, rfl⟩
theorem cvX9_221 : CV RX9 221 yX9_draw cX9_draw 2 (Option.some FieldType.int) 1 9 := ⟨tw952, tw954, tw49, tw58, tw955, ⟨by decide, by decide, by decide +kernel⟩, (RX9, TX9, 32), rfl, rfl⟩
theorem cvL_117 : CV RL 117 yX9_image cX9_image 1 (Option.some FieldType.int) 0 9 := ⟨tw960, tw961, tw962, tw58, tw963, ⟨by decide, by decide, by decide +kernel⟩, (RX9, TX9, 32), rfl, rfl⟩
theorem csX9_224 : CS RX9 224 yX9_copy cX9_copy 3 none 2 := ⟨tw964, tw965, tw58, tw966, ⟨by decide, by decide, by decide +kernel⟩⟩
theorem cvL_121 : CV RL 121 yX9_restore cX9_restore 1 (Option.some FieldType.int) 0 9 := ⟨tw967, tw968, tw969, tw58, tw970, ⟨by decide, by decide, by decide +kernel⟩, (RX9, TX9, 32), rfl, rfl⟩
theorem cvL_125 : CV RL 125 yX9_count cX9_count 2 (Option.some FieldType.int) 1 9 := ⟨tw971, tw972, tw973, tw58, tw974, ⟨by decide, by decide, by decide +kernel⟩, (RX9, TX9, 32), rfl, rfl⟩
theorem cvX9_243 : CV RX9 243 yX9_countOf cX9_countOf 4 (Option.some FieldType.int) 1 9 := ⟨tw975, tw977, tw50, tw58, tw978, ⟨by decide, by decide, by decide +kernel⟩, (RX9, TX9, 32), rfl, rfl⟩
theorem cvL_130 : CV RL 130 yX9_digest cX9_digest 3 (Option.some FieldType.long) 0 9 := ⟨tw979, tw980, tw981, tw58, tw982, ⟨by decide, by decide, by decide +kernel⟩, (RX9, TX9, 32), rfl, rfl⟩
theorem cvX9_254 : CV RX9 254 yX9_say cX9_say 3 none 1 9 := ⟨tw984, tw986, tw51, tw58, tw987, ⟨by decide, by decide, by decide +kernel⟩, (RX9, TX9, 32), rfl, rfl⟩
end
section
/-! the cells that the two systems are made of: 0 to 43 the component's, 44 to 58 the reference's; what comes later are thieves -/
def shpL : List Sh := [.inl 8, .inl 4, .inr (0, 40), .inl 5, .inr (0, 8), .inr (0, 8), .inr (0, 8), .inr (0, 8), .inr (3, 8), .inr (0, 8), .inr (0, 8),
  .inl 1, .inr (0, 8), .inr (0, 8), .inr (0, 8), .inr (2, 8), .inr (2, 8), .inr (0, 8),
  .inl 1, .inr (0, 8), .inr (0, 8), .inr (0, 8), .inr (2, 8), .inr (2, 8), .inr (0, 8),
  .inl 1, .inr (0, 8), .inr (0, 8), .inr (0, 8), .inr (2, 8), .inr (2, 8), .inr (0, 8),
  .inr (1, 8), .inr (0, 8), .inr (0, 256), .inr (0, 256), .inl 7, .inl 7, .inl 7, .inl 7, .inl 7, .inl 7, .inl 7, .inl 7,
  .inl 9, .inr (0, 40), .inr (0, 32), .inr (0, 32), .inr (0, 8), .inr (0, 8), .inr (0, 32), .inr (0, 8), .inr (0, 8), .inr (1, 8), .inr (0, 256), .inr (0, 8), .inr (0, 8), .inr (0, 8), .inr (0, 32)]
def rfsL : Nat → List (Option Nat)
  | 0 => [some 1, some 3, some 8, some 9, some 10, some 11, some 18, some 25, some 32, some 33, some 34, some 35]
  | 1 => [some 2]
  | 3 => [some 4, some 5, some 6, some 7]
  | 11 => [some 12, some 13, some 14, some 15, some 16, some 17]
  | 18 => [some 19, some 20, some 21, some 22, some 23, some 24]
  | 25 => [some 26, some 27, some 28, some 29, some 30, some 31]
  | 44 => [some 45, none, some 46, none, none, none, none, some 47, none, some 48, none, none, none, none, some 49, some 50, some 51, some 52, some 53, some 54, some 55, none, none, none, none, none, none, none, some 56, some 57, some 58]
  | _ => []
def rfs (a n : Nat) : Option Nat := ((rfsL a)[n]?).getD none
/-- the kinds of thieves: plain, skilled, brother, honest, master -/
def thK : Nat → Nat
  | 7 => 0
  | 6 => 1
  | 0 => 2
  | 2 => 3
  | _ => 4
def isTh (sh : Sh) : Prop := sh = .inl 7 ∨ sh = .inl 6 ∨ sh = .inl 0 ∨ sh = .inl 2 ∨ sh = .inl 3
def kiS : Sh → Nat
  | .inl ci => thK ci
  | _ => 0
def thi (M : Mm) (t : Nat) : Nat := (mR M 8 t).getD 0
def kdT (M : Mm) (t : Nat) : Nat := kiS (mT M (thi M t))
def St (M : Mm) : Prop := 59 ≤ mN M ∧ (∀ a sh, shpL[a]? = some sh → mT M a = sh) ∧ (∀ a n j, rfs a n = some j → mR M a n = some j) ∧ ∀ t, t < 8 → mR M 8 t = some (thi M t) ∧ 36 ≤ thi M t ∧ ¬ (44 ≤ thi M t ∧ thi M t < 59) ∧ thi M t < mN M ∧ isTh (mT M (thi M t))
theorem St.lt {M : Mm} (h : St M) {a : Nat} (ha : a < 59) : a < mN M := Nat.lt_of_lt_of_le ha h.1
theorem St.pos {M : Mm} (h : St M) : 0 < mN M := Nat.lt_of_lt_of_le (by decide) h.1
theorem St.T {M : Mm} (h : St M) (a : Nat) {sh : Sh} (e : shpL[a]? = some sh) : mT M a = sh := h.2.1 a sh e
theorem St.R {M : Mm} (h : St M) (a n : Nat) {j : Nat} (e : rfs a n = some j) : mR M a n = some j := h.2.2.1 a n j e
/-- the same shape -/
def Sm (M M' : Mm) : Prop := mN M' = mN M ∧ mT M' = mT M ∧ mR M' = mR M
theorem Sm.rf (M : Mm) : Sm M M := ⟨rfl, rfl, rfl⟩
theorem Sm.tr {A B C : Mm} (h : Sm A B) (k : Sm B C) : Sm A C := ⟨k.1.trans h.1, k.2.1.trans h.2.1, k.2.2.trans h.2.2⟩
theorem Sm.ti {M M' : Mm} (h : Sm M M') (t : Nat) : thi M' t = thi M t := by unfold thi; rw [h.2.2]
theorem Sm.kd {M M' : Mm} (h : Sm M M') (t : Nat) : kdT M' t = kdT M t := by unfold kdT; rw [h.ti, h.2.1]
theorem St.sm {M M' : Mm} (h : St M) (k : Sm M M') : St M' := by
  refine ⟨by rw [k.1]; exact h.1, fun a sh e => by rw [k.2.1]; exact h.2.1 a sh e, fun a n j e => by rw [k.2.2]; exact h.2.2.1 a n j e, fun t ht => ?_⟩
  rw [k.ti, k.2.2, k.2.1, k.1]
  exact h.2.2.2 t ht
/-- nothing has changed but the ints of these cells, the longs of those -/
def Fr (is ls : List Nat) (M M' : Mm) : Prop := Sm M M' ∧ (∀ a, a ∉ is → mI M' a = mI M a) ∧ (∀ a, a ∉ ls → mL M' a = mL M a)
theorem Fr.rf (is ls : List Nat) (M : Mm) : Fr is ls M M := ⟨Sm.rf M, fun _ _ => rfl, fun _ _ => rfl⟩
theorem Fr.tr {is ls : List Nat} {A B C : Mm} (h : Fr is ls A B) (k : Fr is ls B C) : Fr is ls A C := ⟨h.1.tr k.1, fun a ha => (k.2.1 a ha).trans (h.2.1 a ha), fun a ha => (k.2.2 a ha).trans (h.2.2 a ha)⟩
theorem Fr.mono {is ls is' ls' : List Nat} {A B : Mm} (h : Fr is ls A B) (hi : ∀ a ∈ is, a ∈ is') (hl : ∀ a ∈ ls, a ∈ ls') : Fr is' ls' A B := ⟨h.1, fun a ha => h.2.1 a (fun q => ha (hi a q)), fun a ha => h.2.2 a (fun q => ha (hl a q))⟩
theorem Fr.sI {is ls : List Nat} {A B : Mm} (h : Fr is ls A B) {a k : Nat} {v : Int32} (ha : a ∈ is) : Fr is ls A (sI B a k v) := ⟨h.1, fun b hb => (mI_sI_ne (fun q => hb (by rw [q]; exact ha))).trans (h.2.1 b hb), h.2.2⟩
theorem Fr.sL {is ls : List Nat} {A B : Mm} (h : Fr is ls A B) {a k : Nat} {v : Int64} (ha : a ∈ ls) : Fr is ls A (sL B a k v) := ⟨h.1, h.2.1, fun b hb => (mL_sL_ne (fun q => hb (by rw [q]; exact ha))).trans (h.2.2 b hb)⟩
theorem St.fr {is ls : List Nat} {M M' : Mm} (h : St M) (k : Fr is ls M M') : St M' := h.sm k.1
/-! indices -/
def ixOK (i : Int32) (j n : Nat) : Prop := vp_in i n ∧ i.toNatClampNeg = j
theorem ix_nI {j n : Nat} (h : j < n) (hn : n < 2 ^ 31) : ixOK (nI j) j n := ⟨vp_in_nI h hn, nI_clamp (Nat.lt_trans h hn)⟩
theorem ix_of {i : Int32} {j n : Nat} (e : i = nI j) (h : j < n) (hn : n < 2 ^ 31) : ixOK i j n := by rw [e]; exact ix_nI h hn
theorem ix_lt {i : Int32} {j n : Nat} (h : ixOK i j n) : j < n := by
  have := h.1
  rw [vp_in, h.2] at this
  omega
/-- a number that a Java test leaves between 0 and n -/
theorem ix_ex {i : Int32} {n : Nat} (hn : n < 2 ^ 31) (h0 : 0 ≤ i) (h1 : i < nI n) : ∃ j, j < n ∧ i = nI j := by
  obtain ⟨j, hj, e⟩ := nI_of (x := i) (by rw [Int32.not_lt]; exact h0)
  refine ⟨j, ?_, e⟩
  rw [e] at h1
  exact (nI_ltI hj hn).mp h1
section IxRows
variable {x : Cx} {g : Gx} {y : MethodName} {cc : ByteArray} {nL : Nat} {ret : Option FieldType} {R : Room} {Q : State → Prop} {k sl : Nat} {M : Mm} {pc : Nat} {lv : Lv} {rest : List Value}
theorem r_ial {a n j : Nat} {i : Int32} (hT : mT M a = .inr (0, n)) (ha : a < mN M) (hi : ixOK i j n) (d : decode cc pc = .ok (.iaload, 1)) (kk : Vj x g y cc nL ret R Q k sl M (pc + 1) lv (.int (mI M a j) :: rest)) : Vj x g y cc nL ret R Q k sl M pc lv (.int i :: .ref (g.1 + a) :: rest) := r_iaload hT ha hi.1 d (by rw [hi.2]; exact kk)
theorem r_zal {a n j : Nat} {i : Int32} (hT : mT M a = .inr (2, n)) (ha : a < mN M) (hi : ixOK i j n) (d : decode cc pc = .ok (.baload, 1)) (kk : Vj x g y cc nL ret R Q k sl M (pc + 1) lv (.int (mI M a j) :: rest)) : Vj x g y cc nL ret R Q k sl M pc lv (.int i :: .ref (g.1 + a) :: rest) := r_zaload hT ha hi.1 d (by rw [hi.2]; exact kk)
theorem r_lal {a n j : Nat} {i : Int32} (hT : mT M a = .inr (1, n)) (ha : a < mN M) (hi : ixOK i j n) (d : decode cc pc = .ok (.laload, 1)) (kk : Vj x g y cc nL ret R Q k sl M (pc + 1) lv (.long (mL M a j) :: rest)) : Vj x g y cc nL ret R Q k sl M pc lv (.int i :: .ref (g.1 + a) :: rest) := r_laload hT ha hi.1 d (by rw [hi.2]; exact kk)
theorem r_aal {a n j t : Nat} {i : Int32} (hT : mT M a = .inr (3, n)) (ha : a < mN M) (hi : ixOK i t n) (hR : mR M a t = some j) (d : decode cc pc = .ok (.aaload, 1)) (kk : Vj x g y cc nL ret R Q k sl M (pc + 1) lv (.ref (g.1 + j) :: rest)) : Vj x g y cc nL ret R Q k sl M pc lv (.int i :: .ref (g.1 + a) :: rest) := r_aaload hT ha hi.1 (by rw [hi.2]; exact hR) d kk
theorem r_ias {a n j : Nat} {i v : Int32} (hT : mT M a = .inr (0, n)) (ha : a < mN M) (hi : ixOK i j n) (d : decode cc pc = .ok (.iastore, 1)) (kk : Vj x g y cc nL ret R Q k sl (sI M a j v) (pc + 1) lv rest) : Vj x g y cc nL ret R Q k sl M pc lv (.int v :: .int i :: .ref (g.1 + a) :: rest) := r_iastore hT ha hi.1 d (by rw [hi.2]; exact kk)
theorem r_zas {a n j : Nat} {i v : Int32} (hT : mT M a = .inr (2, n)) (ha : a < mN M) (hi : ixOK i j n) (hv : v = 0 ∨ v = 1) (d : decode cc pc = .ok (.bastore, 1)) (kk : Vj x g y cc nL ret R Q k sl (sI M a j v) (pc + 1) lv rest) : Vj x g y cc nL ret R Q k sl M pc lv (.int v :: .int i :: .ref (g.1 + a) :: rest) := r_zastore hT ha hi.1 (by rcases hv with h | h <;> rw [h] <;> rfl) d (by rw [hi.2]; exact kk)
theorem r_las {a n j : Nat} {i : Int32} {v : Int64} (hT : mT M a = .inr (1, n)) (ha : a < mN M) (hi : ixOK i j n) (d : decode cc pc = .ok (.lastore, 1)) (kk : Vj x g y cc nL ret R Q k sl (sL M a j v) (pc + 1) lv rest) : Vj x g y cc nL ret R Q k sl M pc lv (.long v :: .int i :: .ref (g.1 + a) :: rest) := r_lastore hT ha hi.1 d (by rw [hi.2]; exact kk)
theorem r_aas {a n j v ci : Nat} {i : Int32} {r : vw_C} (hT : mT M a = .inr (3, n)) (ha : a < mN M) (hv : v < mN M) (hTv : mT M v = .inl ci) (hc : vwCl[ci]? = some r) (hca : r.1 = RX7 ∨ (r.1, RX7) ∈ caP) (hi : ixOK i j n) (d : decode cc pc = .ok (.aastore, 1)) (kk : Vj x g y cc nL ret R Q k sl (sR M a j (some v)) (pc + 1) lv rest) : Vj x g y cc nL ret R Q k sl M pc lv (.ref (g.1 + v) :: .int i :: .ref (g.1 + a) :: rest) := r_aastore hT ha hv hTv hc hca hi.1 d (by rw [hi.2]; exact kk)
theorem nar_bool {v : Int32} (h : v = 0 ∨ v = 1) : narrow .boolean (.int v) = .int v := by rcases h with h | h <;> rw [h] <;> rfl
end IxRows
end
section
/-! what months do, as functions of rows of numbers -/
abbrev Rw : Type := Nat → Int32
/-- a city that stays: how many thieves, how many spoons; of each thief kind, payer, robbed, fee; of each spoon its worth and owner -/
abbrev Ab : Type := Nat × Nat × (Nat → Nat) × Rw × Rw × Rw × Rw × Rw
def zN (σ : Ab) : Nat := σ.1
def zS (σ : Ab) : Nat := σ.2.1
def zk (σ : Ab) : Nat → Nat := σ.2.2.1
def zp (σ : Ab) : Rw := σ.2.2.2.1
def zr (σ : Ab) : Rw := σ.2.2.2.2.1
def zf (σ : Ab) : Rw := σ.2.2.2.2.2.1
def zw (σ : Ab) : Rw := σ.2.2.2.2.2.2.1
def zo (σ : Ab) : Rw := σ.2.2.2.2.2.2.2
def hs8 (v : Int32) : Prop := ∃ j : Nat, j < 8 ∧ v = nI j
def Wf (σ : Ab) : Prop := zN σ ≤ 8 ∧ zS σ ≤ 8 ∧ (∀ t, t < zN σ → zk σ t < 5 ∧ hs8 (zp σ t) ∧ hs8 (zr σ t) ∧ 0 ≤ zf σ t ∧ zf σ t ≤ 9) ∧ ∀ s, s < zS σ → 1 ≤ zw σ s ∧ zw σ s ≤ 99 ∧ hs8 (zo σ s)
/-- the component's cells hold this city -/
def CV1 (σ : Ab) (M : Mm) : Prop := mI M 0 12 = nI (zN σ) ∧ mI M 0 13 = nI (zS σ) ∧ (∀ t, t < zN σ → kdT M t = zk σ t ∧ mI M (thi M t) 0 = zp σ t ∧ mI M (thi M t) 1 = zr σ t ∧ mI M (thi M t) 2 = zf σ t) ∧ ∀ s, s < zS σ → mI M 9 s = zw σ s ∧ mI M 10 s = zo σ s
/-- the reference's cells hold this city -/
def RV1 (σ : Ab) (M : Mm) : Prop := mI M 44 5 = nI (zN σ) ∧ mI M 44 10 = nI (zS σ) ∧ (∀ t, t < zN σ → mI M 47 (4 * t) = nI (zk σ t) ∧ mI M 47 (4 * t + 1) = zp σ t ∧ mI M 47 (4 * t + 2) = zr σ t ∧ mI M 47 (4 * t + 3) = zf σ t) ∧ ∀ s, s < zS σ → mI M 50 (4 * s) = zw σ s ∧ mI M 50 (4 * s + 1) = zo σ s
def likes (k : Nat) (a b : Int32) : Bool := if k = 2 then decide (a < b) else decide (b < a)
def pickF (k : Nat) (wo ps : Rw) (h : Int32) : Nat → Int32
  | 0 => -1
  | s + 1 => if ps s = h ∧ (pickF k wo ps h s = -1 ∨ likes k (wo s) (wo (pickF k wo ps h s).toNatClampNeg) = true) then nI s else pickF k wo ps h s
def mostF (k : Nat) : Nat := if k = 3 then 0 else if k = 1 ∨ k = 4 then 2 else 1
def takeF (k : Nat) (wo : Rw) (S : Nat) (fr to : Int32) : Nat → Rw → Int32 × Rw
  | 0, ps => (0, ps)
  | n + 1, ps => if pickF k wo ps fr S = -1 then (0, ps) else ((takeF k wo S fr to n (va_up ps (pickF k wo ps fr S).toNatClampNeg to)).1 + 1, (takeF k wo S fr to n (va_up ps (pickF k wo ps fr S).toNatClampNeg to)).2)
def frF (σ : Ab) (pd : Int32) (t : Nat) : Int32 := if pd = 0 then zp σ t else zr σ t
def toF (σ : Ab) (pd : Int32) (t : Nat) : Int32 := if pd = 0 then zr σ t else zp σ t
def outF (k : Nat) (dg lo : Int32) : Prop := ¬ dg = 0 ∨ (¬ k = 4 ∧ 0 < lo)
noncomputable def visitF (σ : Ab) (pd dg lo : Rw) (t : Nat) (ps : Rw) : Int32 × Rw := by
  classical exact if outF (zk σ t) (dg (frF σ (pd t) t).toNatClampNeg) (lo (frF σ (pd t) t).toNatClampNeg) then (0, ps) else takeF (zk σ t) (zw σ) (zS σ) (frF σ (pd t) t) (toF σ (pd t) t) (mostF (zk σ t)) ps
noncomputable def passF (σ : Ab) (pd dg lo : Rw) (cm : Nat → Prop) (ps : Rw) : Nat → Int32 × Rw := by
  classical exact fun n => Nat.rec (0, ps) (fun t q => if cm t then (q.1 + (visitF σ pd dg lo t q.2).1, (visitF σ pd dg lo t q.2).2) else q) n
def lapF (lo : Rw) : Rw := fun h => if h < 8 then (if 0 < lo h then lo h - 1 else 0) else lo h
theorem passF_0 (σ : Ab) (pd dg lo : Rw) (cm : Nat → Prop) (ps : Rw) : passF σ pd dg lo cm ps 0 = (0, ps) := rfl
theorem passF_s1 {σ : Ab} {pd dg lo : Rw} {cm : Nat → Prop} {ps : Rw} {t : Nat} (h : cm t) : passF σ pd dg lo cm ps (t + 1) = ((passF σ pd dg lo cm ps t).1 + (visitF σ pd dg lo t (passF σ pd dg lo cm ps t).2).1, (visitF σ pd dg lo t (passF σ pd dg lo cm ps t).2).2) := by
  classical
  show (if cm t then _ else _) = _
  rw [if_pos h]
  rfl
theorem passF_s0 {σ : Ab} {pd dg lo : Rw} {cm : Nat → Prop} {ps : Rw} {t : Nat} (h : ¬ cm t) : passF σ pd dg lo cm ps (t + 1) = passF σ pd dg lo cm ps t := by
  classical
  show (if cm t then _ else _) = _
  rw [if_neg h]
  rfl
theorem visitF_1 {σ : Ab} {pd dg lo : Rw} {t : Nat} {ps : Rw} (h : outF (zk σ t) (dg (frF σ (pd t) t).toNatClampNeg) (lo (frF σ (pd t) t).toNatClampNeg)) : visitF σ pd dg lo t ps = (0, ps) := by
  unfold visitF
  rw [if_pos h]
theorem visitF_0 {σ : Ab} {pd dg lo : Rw} {t : Nat} {ps : Rw} (h : ¬ outF (zk σ t) (dg (frF σ (pd t) t).toNatClampNeg) (lo (frF σ (pd t) t).toNatClampNeg)) : visitF σ pd dg lo t ps = takeF (zk σ t) (zw σ) (zS σ) (frF σ (pd t) t) (toF σ (pd t) t) (mostF (zk σ t)) ps := by
  unfold visitF
  rw [if_neg h]
theorem pickF_some {k : Nat} {wo ps : Rw} {h : Int32} : ∀ (s : Nat), pickF k wo ps h s = -1 ∨ ∃ j, j < s ∧ pickF k wo ps h s = nI j
  | 0 => Or.inl rfl
  | s + 1 => by
    unfold pickF
    split
    · exact Or.inr ⟨s, by omega, rfl⟩
    · rcases pickF_some (k := k) (wo := wo) (ps := ps) (h := h) s with e | ⟨j, hj, e⟩
      · exact Or.inl e
      · exact Or.inr ⟨j, by omega, e⟩
theorem frF_8 {σ : Ab} (w : Wf σ) {t : Nat} (ht : t < zN σ) (pd : Int32) : hs8 (frF σ pd t) := by
  unfold frF
  split
  · exact (w.2.2.1 t ht).2.1
  · exact (w.2.2.1 t ht).2.2.1
theorem toF_8 {σ : Ab} (w : Wf σ) {t : Nat} (ht : t < zN σ) (pd : Int32) : hs8 (toF σ pd t) := by
  unfold toF
  split
  · exact (w.2.2.1 t ht).2.2.1
  · exact (w.2.2.1 t ht).2.1
theorem nI_ne_m1 {j : Nat} (h : j < 2 ^ 31) : ¬ nI j = -1 := by
  intro e
  have h1 := nI_pos' h
  rw [e] at h1
  exact absurd h1 (by decide)
theorem nI_mul (a b : Nat) : nI a * nI b = nI (a * b) := by unfold nI; rw [Int32.ofNat_mul]
theorem nI_4 (t c : Nat) : (4 : Int32) * nI t + nI c = nI (4 * t + c) := by
  rw [show (4 : Int32) = nI 4 from rfl, nI_mul, nI_add]
theorem nI_40 (t : Nat) : (4 : Int32) * nI t = nI (4 * t) := by
  rw [show (4 : Int32) = nI 4 from rfl, nI_mul]
section ThRow
variable {x : Cx} {g : Gx} {y : MethodName} {cc : ByteArray} {nL : Nat} {ret : Option FieldType} {R : Room} {Q : State → Prop} {k sl : Nat} {M : Mm} {pc : Nat} {lv : Lv} {rest : List Value}
theorem r_getTh {a n idx : Nat} (f7 : FL y.cls idx 7 n) (f6 : FL y.cls idx 6 n) (f0 : FL y.cls idx 0 n) (f2 : FL y.cls idx 2 n) (f3 : FL y.cls idx 3 n) (hn : n < 3) (ha : a < mN M) (ht : isTh (mT M a)) (d : decode cc pc = .ok (.getfield idx, 3)) (kk : Vj x g y cc nL ret R Q k sl M (pc + 3) lv (.int (mI M a n) :: rest)) : Vj x g y cc nL ret R Q k sl M pc lv (.ref (g.1 + a) :: rest) := by
  have hk : ∀ ci, ci = 7 ∨ ci = 6 ∨ ci = 0 ∨ ci = 2 ∨ ci = 3 → (fkd ci)[n]? = some 0 := by
    intro ci hci
    rcases hci with h | h | h | h | h <;> rw [h] <;> (rcases (show n = 0 ∨ n = 1 ∨ n = 2 by omega) with h | h | h <;> rw [h] <;> rfl)
  rcases ht with h | h | h | h | h
  · exact r_getI f7 (hk 7 (by simp)) ha h d kk
  · exact r_getI f6 (hk 6 (by simp)) ha h d kk
  · exact r_getI f0 (hk 0 (by simp)) ha h d kk
  · exact r_getI f2 (hk 2 (by simp)) ha h d kk
  · exact r_getI f3 (hk 3 (by simp)) ha h d kk
end ThRow
end
section
def rmX8_isHouse : Room := { frames := 0, cells := 0, slots := 0, locals := 0 }
set_option maxHeartbeats 4000000 in
set_option maxRecDepth 100000 in
theorem kX8_isHouse (g : Gx) (M : Mm) (h : Int32) : Ct g yX8_isHouse cX8_isHouse 1 (Option.some FieldType.boolean) rmX8_isHouse [.int h] M (pI fun r M' => M' = M ∧ r = (if 0 ≤ h ∧ h < 8 then 1 else 0)) := by
  refine Ct.of rfl (Nat.le_of_ble_eq_true rfl) (fun x => ?_)
  refine r_iload_n dX8_isHouse_0 rfl ?_
  refine r_if_lt 14 dX8_isHouse_1 (by decide) (fun c1 => ?_) (fun c1 => ?_)
  · skip
    refine r_iconst (v := 0) dX8_isHouse_14 (by decide) ?_
    exact r_zret (nar_bool (by simp)) dX8_isHouse_15 ⟨_, rfl, rfl, by grind⟩
  · skip
    refine r_iload_n dX8_isHouse_4 rfl ?_
    refine r_bipush (v := 8) dX8_isHouse_5 (by decide) ?_
    refine r_icmp_ge 14 dX8_isHouse_7 (by decide) (fun c7 => ?_) (fun c7 => ?_)
    · skip
      refine r_iconst (v := 0) dX8_isHouse_14 (by decide) ?_
      exact r_zret (nar_bool (by simp)) dX8_isHouse_15 ⟨_, rfl, rfl, by grind⟩
    · skip
      refine r_iconst (v := 1) dX8_isHouse_10 (by decide) ?_
      refine r_goto 15 dX8_isHouse_11 (by decide) ?_
      exact r_zret (nar_bool (by simp)) dX8_isHouse_15 ⟨_, rfl, rfl, by grind⟩
def rmX8_isThief : Room := { frames := 0, cells := 0, slots := 0, locals := 0 }
set_option maxHeartbeats 4000000 in
set_option maxRecDepth 100000 in
theorem kX8_isThief (g : Gx) (M : Mm) (hs : St M) (t : Int32) : Ct g yX8_isThief cX8_isThief 2 (Option.some FieldType.boolean) rmX8_isThief [.ref (g.1 + 0), .int t] M (pI fun r M' => M' = M ∧ r = (if 0 ≤ t ∧ t < mI M 0 12 then 1 else 0)) := by
  refine Ct.of rfl (Nat.le_of_ble_eq_true rfl) (fun x => ?_)
  refine r_iload_n dX8_isThief_0 rfl ?_
  refine r_if_lt 16 dX8_isThief_1 (by decide) (fun c1 => ?_) (fun c1 => ?_)
  · skip
    refine r_iconst (v := 0) dX8_isThief_16 (by decide) ?_
    exact r_zret (nar_bool (by simp)) dX8_isThief_17 ⟨_, rfl, rfl, by grind⟩
  · skip
    refine r_iload_n dX8_isThief_4 rfl ?_
    refine r_aload_n dX8_isThief_5 rfl ?_
    refine r_getI flX8_62_8 rfl (hs.lt (by decide)) (hs.T 0 rfl) dX8_isThief_6 ?_
    refine r_icmp_ge 16 dX8_isThief_9 (by decide) (fun c9 => ?_) (fun c9 => ?_)
    · skip
      refine r_iconst (v := 0) dX8_isThief_16 (by decide) ?_
      exact r_zret (nar_bool (by simp)) dX8_isThief_17 ⟨_, rfl, rfl, by grind⟩
    · skip
      refine r_iconst (v := 1) dX8_isThief_12 (by decide) ?_
      refine r_goto 17 dX8_isThief_13 (by decide) ?_
      exact r_zret (nar_bool (by simp)) dX8_isThief_17 ⟨_, rfl, rfl, by grind⟩
def rmX8_isSpoon : Room := { frames := 0, cells := 0, slots := 0, locals := 0 }
set_option maxHeartbeats 4000000 in
set_option maxRecDepth 100000 in
theorem kX8_isSpoon (g : Gx) (M : Mm) (hs : St M) (t : Int32) : Ct g yX8_isSpoon cX8_isSpoon 2 (Option.some FieldType.boolean) rmX8_isSpoon [.ref (g.1 + 0), .int t] M (pI fun r M' => M' = M ∧ r = (if 0 ≤ t ∧ t < mI M 0 13 then 1 else 0)) := by
  refine Ct.of rfl (Nat.le_of_ble_eq_true rfl) (fun x => ?_)
  refine r_iload_n dX8_isSpoon_0 rfl ?_
  refine r_if_lt 16 dX8_isSpoon_1 (by decide) (fun c1 => ?_) (fun c1 => ?_)
  · skip
    refine r_iconst (v := 0) dX8_isSpoon_16 (by decide) ?_
    exact r_zret (nar_bool (by simp)) dX8_isSpoon_17 ⟨_, rfl, rfl, by grind⟩
  · skip
    refine r_iload_n dX8_isSpoon_4 rfl ?_
    refine r_aload_n dX8_isSpoon_5 rfl ?_
    refine r_getI flX8_66_8 rfl (hs.lt (by decide)) (hs.T 0 rfl) dX8_isSpoon_6 ?_
    refine r_icmp_ge 16 dX8_isSpoon_9 (by decide) (fun c9 => ?_) (fun c9 => ?_)
    · skip
      refine r_iconst (v := 0) dX8_isSpoon_16 (by decide) ?_
      exact r_zret (nar_bool (by simp)) dX8_isSpoon_17 ⟨_, rfl, rfl, by grind⟩
    · skip
      refine r_iconst (v := 1) dX8_isSpoon_12 (by decide) ?_
      refine r_goto 17 dX8_isSpoon_13 (by decide) ?_
      exact r_zret (nar_bool (by simp)) dX8_isSpoon_17 ⟨_, rfl, rfl, by grind⟩
def rmX8_asNumber : Room := { frames := 0, cells := 0, slots := 0, locals := 0 }
set_option maxHeartbeats 4000000 in
set_option maxRecDepth 100000 in
theorem kX8_asNumber (g : Gx) (M : Mm) (h : Int32) : Ct g yX8_asNumber cX8_asNumber 1 (Option.some FieldType.int) rmX8_asNumber [.int h] M (pI fun r M' => M' = M ∧ r = (if h = 0 then 0 else 1)) := by
  refine Ct.of rfl (Nat.le_of_ble_eq_true rfl) (fun x => ?_)
  refine r_iload_n dX8_asNumber_0 rfl ?_
  refine r_if_eq 8 dX8_asNumber_1 (by decide) (fun c1 => ?_) (fun c1 => ?_)
  · skip
    refine r_iconst (v := 0) dX8_asNumber_8 (by decide) ?_
    exact r_iret dX8_asNumber_9 ⟨_, rfl, rfl, by grind⟩
  · skip
    refine r_iconst (v := 1) dX8_asNumber_4 (by decide) ?_
    refine r_goto 9 dX8_asNumber_5 (by decide) ?_
    exact r_iret dX8_asNumber_9 ⟨_, rfl, rfl, by grind⟩
def rmX8_byteOf : Room := { frames := 0, cells := 0, slots := 0, locals := 0 }
set_option maxHeartbeats 4000000 in
set_option maxRecDepth 100000 in
theorem kX8_byteOf (g : Gx) (M : Mm) (v : Int64) (i : Int32) : Ct g yX8_byteOf cX8_byteOf 3 (Option.some FieldType.int) rmX8_byteOf [.long v, .int i] M (pI fun r M' => M' = M ∧ r = ((v.toUInt64 >>> ((8 * i).toInt64.toUInt64 &&& Int64.toUInt64 63)).toInt64.toInt32 &&& 255)) := by
  refine Ct.of rfl (Nat.le_of_ble_eq_true rfl) (fun x => ?_)
  refine r_lload_n dX8_byteOf_0 rfl ?_
  refine r_bipush (v := 8) dX8_byteOf_1 (by decide) ?_
  refine r_iload_n dX8_byteOf_3 rfl ?_
  refine r_imul dX8_byteOf_4 ?_
  refine r_lushr dX8_byteOf_5 ?_
  refine r_l2i dX8_byteOf_6 ?_
  refine r_sipush (v := 255) dX8_byteOf_7 (by decide) ?_
  refine r_iand dX8_byteOf_10 ?_
  exact r_iret dX8_byteOf_11 ⟨_, rfl, rfl, rfl⟩
def rmX8_nextSeed : Room := { frames := 0, cells := 0, slots := 0, locals := 0 }
set_option maxHeartbeats 4000000 in
set_option maxRecDepth 100000 in
theorem kX8_nextSeed (g : Gx) (M : Mm) (v : Int32) : Ct g yX8_nextSeed cX8_nextSeed 1 (Option.some FieldType.int) rmX8_nextSeed [.int v] M (pI fun r M' => M' = M ∧ r = ((1103515245 * v.toInt64 + 12345) &&& 2147483647).toInt32) := by
  refine Ct.of rfl (Nat.le_of_ble_eq_true rfl) (fun x => ?_)
  refine r_ldc2_w (v := 1103515245) dX8_nextSeed_0 tw575 ?_
  refine r_iload_n dX8_nextSeed_3 rfl ?_
  refine r_i2l dX8_nextSeed_4 ?_
  refine r_lmul dX8_nextSeed_5 ?_
  refine r_ldc2_w (v := 12345) dX8_nextSeed_6 tw576 ?_
  refine r_ladd dX8_nextSeed_9 ?_
  refine r_ldc2_w (v := 2147483647) dX8_nextSeed_10 tw577 ?_
  refine r_land dX8_nextSeed_13 ?_
  refine r_l2i dX8_nextSeed_14 ?_
  exact r_iret dX8_nextSeed_15 ⟨_, rfl, rfl, rfl⟩
def rmX8_drawOfTen : Room := { frames := 0, cells := 0, slots := 0, locals := 0 }
set_option maxHeartbeats 4000000 in
set_option maxRecDepth 100000 in
theorem kX8_drawOfTen (g : Gx) (M : Mm) (v : Int32) : Ct g yX8_drawOfTen cX8_drawOfTen 1 (Option.some FieldType.int) rmX8_drawOfTen [.int v] M (pI fun r M' => M' = M ∧ r = (v / 65536 - v / 65536 / 10 * 10)) := by
  refine Ct.of rfl (Nat.le_of_ble_eq_true rfl) (fun x => ?_)
  refine r_iload_n dX8_drawOfTen_0 rfl ?_
  refine r_ldc_w (v := 65536) dX8_drawOfTen_1 tw581 ?_
  refine r_idiv dX8_drawOfTen_4 (by decide) ?_
  refine r_bipush (v := 10) dX8_drawOfTen_5 (by decide) ?_
  refine r_irem dX8_drawOfTen_7 (by decide) ?_
  exact r_iret dX8_drawOfTen_8 ⟨_, rfl, rfl, rfl⟩
def rmX8_with : Room := { frames := 0, cells := 0, slots := 0, locals := 0 }
set_option maxHeartbeats 4000000 in
set_option maxRecDepth 100000 in
theorem kX8_with (g : Gx) (M : Mm) (h v : Int64) : Ct g yX8_with cX8_with 4 (Option.some FieldType.long) rmX8_with [.long h, .long v] M (pL fun r M' => M' = M ∧ r = 31 * h + v) := by
  refine Ct.of rfl (Nat.le_of_ble_eq_true rfl) (fun x => ?_)
  refine r_ldc2_w (v := 31) dX8_with_0 tw615 ?_
  refine r_lload_n dX8_with_3 rfl ?_
  refine r_lmul dX8_with_4 ?_
  refine r_lload_n dX8_with_5 rfl ?_
  refine r_ladd dX8_with_6 ?_
  exact r_lret dX8_with_7 ⟨_, rfl, rfl, rfl⟩
def rmX7_kind : Room := { frames := 0, cells := 0, slots := 0, locals := 0 }
set_option maxHeartbeats 4000000 in
set_option maxRecDepth 100000 in
theorem kX7_kind (g : Gx) (M : Mm) (a : Nat)  : Ct g yX7_kind cX7_kind 1 (Option.some FieldType.int) rmX7_kind [.ref (g.1 + a)] M (pI fun r M' => M' = M ∧ r = 0) := by
  refine Ct.of rfl (Nat.le_of_ble_eq_true rfl) (fun x => ?_)
  refine r_iconst (v := 0) dX7_kind_0 (by decide) ?_
  exact r_iret dX7_kind_1 ⟨_, rfl, rfl, by grind⟩
def rmX6_kind : Room := { frames := 0, cells := 0, slots := 0, locals := 0 }
set_option maxHeartbeats 4000000 in
set_option maxRecDepth 100000 in
theorem kX6_kind (g : Gx) (M : Mm) (a : Nat)  : Ct g yX6_kind cX6_kind 1 (Option.some FieldType.int) rmX6_kind [.ref (g.1 + a)] M (pI fun r M' => M' = M ∧ r = 1) := by
  refine Ct.of rfl (Nat.le_of_ble_eq_true rfl) (fun x => ?_)
  refine r_iconst (v := 1) dX6_kind_0 (by decide) ?_
  exact r_iret dX6_kind_1 ⟨_, rfl, rfl, by grind⟩
def rmX0_kind : Room := { frames := 0, cells := 0, slots := 0, locals := 0 }
set_option maxHeartbeats 4000000 in
set_option maxRecDepth 100000 in
theorem kX0_kind (g : Gx) (M : Mm) (a : Nat)  : Ct g yX0_kind cX0_kind 1 (Option.some FieldType.int) rmX0_kind [.ref (g.1 + a)] M (pI fun r M' => M' = M ∧ r = 2) := by
  refine Ct.of rfl (Nat.le_of_ble_eq_true rfl) (fun x => ?_)
  refine r_iconst (v := 2) dX0_kind_0 (by decide) ?_
  exact r_iret dX0_kind_1 ⟨_, rfl, rfl, by grind⟩
def rmX2_kind : Room := { frames := 0, cells := 0, slots := 0, locals := 0 }
set_option maxHeartbeats 4000000 in
set_option maxRecDepth 100000 in
theorem kX2_kind (g : Gx) (M : Mm) (a : Nat)  : Ct g yX2_kind cX2_kind 1 (Option.some FieldType.int) rmX2_kind [.ref (g.1 + a)] M (pI fun r M' => M' = M ∧ r = 3) := by
  refine Ct.of rfl (Nat.le_of_ble_eq_true rfl) (fun x => ?_)
  refine r_iconst (v := 3) dX2_kind_0 (by decide) ?_
  exact r_iret dX2_kind_1 ⟨_, rfl, rfl, by grind⟩
def rmX3_kind : Room := { frames := 0, cells := 0, slots := 0, locals := 0 }
set_option maxHeartbeats 4000000 in
set_option maxRecDepth 100000 in
theorem kX3_kind (g : Gx) (M : Mm) (a : Nat)  : Ct g yX3_kind cX3_kind 1 (Option.some FieldType.int) rmX3_kind [.ref (g.1 + a)] M (pI fun r M' => M' = M ∧ r = 4) := by
  refine Ct.of rfl (Nat.le_of_ble_eq_true rfl) (fun x => ?_)
  refine r_iconst (v := 4) dX3_kind_0 (by decide) ?_
  exact r_iret dX3_kind_1 ⟨_, rfl, rfl, by grind⟩
def rmX7_robs : Room := { frames := 0, cells := 0, slots := 0, locals := 0 }
set_option maxHeartbeats 4000000 in
set_option maxRecDepth 100000 in
theorem kX7_robs (g : Gx) (M : Mm) (a : Nat) (ha : a < mN M) (ht : isTh (mT M a)) (p : Int32) : Ct g yX7_robs cX7_robs 2 (Option.some FieldType.int) rmX7_robs [.ref (g.1 + a), .int p] M (pI fun r M' => M' = M ∧ r = (if p = 0 then mI M a 0 else mI M a 1)) := by
  refine Ct.of rfl (Nat.le_of_ble_eq_true rfl) (fun x => ?_)
  refine r_iload_n dX7_robs_0 rfl ?_
  refine r_if_eq 11 dX7_robs_1 (by decide) (fun c1 => ?_) (fun c1 => ?_)
  · skip
    refine r_aload_n dX7_robs_11 rfl ?_
    refine r_getTh flX7_7_7 flX7_7_6 flX7_7_0 flX7_7_2 flX7_7_3 (by decide) ha ht dX7_robs_12 ?_
    exact r_iret dX7_robs_15 ⟨_, rfl, rfl, by grind⟩
  · skip
    refine r_aload_n dX7_robs_4 rfl ?_
    refine r_getTh flX7_13_7 flX7_13_6 flX7_13_0 flX7_13_2 flX7_13_3 (by decide) ha ht dX7_robs_5 ?_
    refine r_goto 15 dX7_robs_8 (by decide) ?_
    exact r_iret dX7_robs_15 ⟨_, rfl, rfl, by grind⟩
def rmX7_isKeptOut : Room := { frames := 0, cells := 0, slots := 0, locals := 0 }
set_option maxHeartbeats 4000000 in
set_option maxRecDepth 100000 in
theorem kX7_isKeptOut (g : Gx) (M : Mm) (a : Nat) (p v : Int32) : Ct g yX7_isKeptOut cX7_isKeptOut 3 (Option.some FieldType.boolean) rmX7_isKeptOut [.ref (g.1 + a), .int p, .int v] M (pI fun r M' => M' = M ∧ r = (if ¬ p = 0 ∨ 0 < v then 1 else 0)) := by
  refine Ct.of rfl (Nat.le_of_ble_eq_true rfl) (fun x => ?_)
  refine r_iload_n dX7_isKeptOut_0 rfl ?_
  refine r_if_ne 8 dX7_isKeptOut_1 (by decide) (fun c1 => ?_) (fun c1 => ?_)
  · skip
    refine r_iconst (v := 1) dX7_isKeptOut_8 (by decide) ?_
    refine r_goto 13 dX7_isKeptOut_9 (by decide) ?_
    exact r_zret (nar_bool (by simp)) dX7_isKeptOut_13 ⟨_, rfl, rfl, by grind⟩
  · skip
    refine r_iload_n dX7_isKeptOut_4 rfl ?_
    refine r_if_le 12 dX7_isKeptOut_5 (by decide) (fun c5 => ?_) (fun c5 => ?_)
    · skip
      refine r_iconst (v := 0) dX7_isKeptOut_12 (by decide) ?_
      exact r_zret (nar_bool (by simp)) dX7_isKeptOut_13 ⟨_, rfl, rfl, by grind⟩
    · skip
      refine r_iconst (v := 1) dX7_isKeptOut_8 (by decide) ?_
      refine r_goto 13 dX7_isKeptOut_9 (by decide) ?_
      exact r_zret (nar_bool (by simp)) dX7_isKeptOut_13 ⟨_, rfl, rfl, by grind⟩
def rmX3_isKeptOut : Room := { frames := 0, cells := 0, slots := 0, locals := 0 }
set_option maxHeartbeats 4000000 in
set_option maxRecDepth 100000 in
theorem kX3_isKeptOut (g : Gx) (M : Mm) (a : Nat) (p v : Int32) (hp : p = 0 ∨ p = 1) : Ct g yX3_isKeptOut cX3_isKeptOut 3 (Option.some FieldType.boolean) rmX3_isKeptOut [.ref (g.1 + a), .int p, .int v] M (pI fun r M' => M' = M ∧ r = p) := by
  refine Ct.of rfl (Nat.le_of_ble_eq_true rfl) (fun x => ?_)
  refine r_iload_n dX3_isKeptOut_0 rfl ?_
  exact r_zret (nar_bool hp) dX3_isKeptOut_1 ⟨_, rfl, rfl, rfl⟩
def rmX7_mostTaken : Room := { frames := 0, cells := 0, slots := 0, locals := 0 }
set_option maxHeartbeats 4000000 in
set_option maxRecDepth 100000 in
theorem kX7_mostTaken (g : Gx) (M : Mm) (a : Nat)  : Ct g yX7_mostTaken cX7_mostTaken 1 (Option.some FieldType.int) rmX7_mostTaken [.ref (g.1 + a)] M (pI fun r M' => M' = M ∧ r = 1) := by
  refine Ct.of rfl (Nat.le_of_ble_eq_true rfl) (fun x => ?_)
  refine r_iconst (v := 1) dX7_mostTaken_0 (by decide) ?_
  exact r_iret dX7_mostTaken_1 ⟨_, rfl, rfl, by grind⟩
def rmX6_mostTaken : Room := { frames := 0, cells := 0, slots := 0, locals := 0 }
set_option maxHeartbeats 4000000 in
set_option maxRecDepth 100000 in
theorem kX6_mostTaken (g : Gx) (M : Mm) (a : Nat)  : Ct g yX6_mostTaken cX6_mostTaken 1 (Option.some FieldType.int) rmX6_mostTaken [.ref (g.1 + a)] M (pI fun r M' => M' = M ∧ r = 2) := by
  refine Ct.of rfl (Nat.le_of_ble_eq_true rfl) (fun x => ?_)
  refine r_iconst (v := 2) dX6_mostTaken_0 (by decide) ?_
  exact r_iret dX6_mostTaken_1 ⟨_, rfl, rfl, by grind⟩
def rmX2_mostTaken : Room := { frames := 0, cells := 0, slots := 0, locals := 0 }
set_option maxHeartbeats 4000000 in
set_option maxRecDepth 100000 in
theorem kX2_mostTaken (g : Gx) (M : Mm) (a : Nat)  : Ct g yX2_mostTaken cX2_mostTaken 1 (Option.some FieldType.int) rmX2_mostTaken [.ref (g.1 + a)] M (pI fun r M' => M' = M ∧ r = 0) := by
  refine Ct.of rfl (Nat.le_of_ble_eq_true rfl) (fun x => ?_)
  refine r_iconst (v := 0) dX2_mostTaken_0 (by decide) ?_
  exact r_iret dX2_mostTaken_1 ⟨_, rfl, rfl, by grind⟩
def rmX7_likesBetter : Room := { frames := 0, cells := 0, slots := 0, locals := 0 }
set_option maxHeartbeats 4000000 in
set_option maxRecDepth 100000 in
theorem kX7_likesBetter (g : Gx) (M : Mm) (a : Nat) (u v : Int32) : Ct g yX7_likesBetter cX7_likesBetter 3 (Option.some FieldType.boolean) rmX7_likesBetter [.ref (g.1 + a), .int u, .int v] M (pI fun r M' => M' = M ∧ r = (if v < u then 1 else 0)) := by
  refine Ct.of rfl (Nat.le_of_ble_eq_true rfl) (fun x => ?_)
  refine r_iload_n dX7_likesBetter_0 rfl ?_
  refine r_iload_n dX7_likesBetter_1 rfl ?_
  refine r_icmp_le 9 dX7_likesBetter_2 (by decide) (fun c2 => ?_) (fun c2 => ?_)
  · skip
    refine r_iconst (v := 0) dX7_likesBetter_9 (by decide) ?_
    exact r_zret (nar_bool (by simp)) dX7_likesBetter_10 ⟨_, rfl, rfl, by grind⟩
  · skip
    refine r_iconst (v := 1) dX7_likesBetter_5 (by decide) ?_
    refine r_goto 10 dX7_likesBetter_6 (by decide) ?_
    exact r_zret (nar_bool (by simp)) dX7_likesBetter_10 ⟨_, rfl, rfl, by grind⟩
def rmX0_likesBetter : Room := { frames := 0, cells := 0, slots := 0, locals := 0 }
set_option maxHeartbeats 4000000 in
set_option maxRecDepth 100000 in
theorem kX0_likesBetter (g : Gx) (M : Mm) (a : Nat) (u v : Int32) : Ct g yX0_likesBetter cX0_likesBetter 3 (Option.some FieldType.boolean) rmX0_likesBetter [.ref (g.1 + a), .int u, .int v] M (pI fun r M' => M' = M ∧ r = (if u < v then 1 else 0)) := by
  refine Ct.of rfl (Nat.le_of_ble_eq_true rfl) (fun x => ?_)
  refine r_iload_n dX0_likesBetter_0 rfl ?_
  refine r_iload_n dX0_likesBetter_1 rfl ?_
  refine r_icmp_ge 9 dX0_likesBetter_2 (by decide) (fun c2 => ?_) (fun c2 => ?_)
  · skip
    refine r_iconst (v := 0) dX0_likesBetter_9 (by decide) ?_
    exact r_zret (nar_bool (by simp)) dX0_likesBetter_10 ⟨_, rfl, rfl, by grind⟩
  · skip
    refine r_iconst (v := 1) dX0_likesBetter_5 (by decide) ?_
    refine r_goto 10 dX0_likesBetter_6 (by decide) ?_
    exact r_zret (nar_bool (by simp)) dX0_likesBetter_10 ⟨_, rfl, rfl, by grind⟩
section Disp
variable {x : Cx} {g : Gx} {y : MethodName} {cc : ByteArray} {nL : Nat} {ret : Option FieldType} {R : Room} {Q : State → Prop} {k sl : Nat} {M : Mm} {pc : Nat} {lv : Lv} {rest : List Value}
set_option maxHeartbeats 4000000 in
theorem r_v_kind {a : Nat} (hy : y.cls = RX8) (ha : a < mN M) (ht : isTh (mT M a)) (hR : 1 ≤ R.frames ∧ 20 ≤ R.locals) (hr : (rest.map fun v => v.category).sum ≤ 8) (hc : k ≤ R.cells ∧ sl ≤ R.slots) (d : decode cc pc = .ok (.invokevirtual 137, 3)) (kk : Vj x g y cc nL ret R Q k sl M (pc + 3) lv (.int (nI (kiS (mT M a))) :: rest)) : Vj x g y cc nL ret R Q k sl M pc lv (.ref (g.1 + a) :: rest) := by
  rcases ht with h | h | h | h | h
  · refine r_cU0i (by rw [hy]; exact cuX8_137_7) (kX7_kind g M a ) ha h ⟨by show 0 + 1 ≤ _; omega, by show 8 + (1 + 11) + 0 ≤ _; omega⟩ hr hc d (fun r M' hq => ?_)
    obtain ⟨rfl, rfl⟩ := hq; rw [h] at kk; exact kk
  · refine r_cU0i (by rw [hy]; exact cuX8_137_6) (kX6_kind g M a ) ha h ⟨by show 0 + 1 ≤ _; omega, by show 8 + (1 + 11) + 0 ≤ _; omega⟩ hr hc d (fun r M' hq => ?_)
    obtain ⟨rfl, rfl⟩ := hq; rw [h] at kk; exact kk
  · refine r_cU0i (by rw [hy]; exact cuX8_137_0) (kX0_kind g M a ) ha h ⟨by show 0 + 1 ≤ _; omega, by show 8 + (1 + 11) + 0 ≤ _; omega⟩ hr hc d (fun r M' hq => ?_)
    obtain ⟨rfl, rfl⟩ := hq; rw [h] at kk; exact kk
  · refine r_cU0i (by rw [hy]; exact cuX8_137_2) (kX2_kind g M a ) ha h ⟨by show 0 + 1 ≤ _; omega, by show 8 + (1 + 11) + 0 ≤ _; omega⟩ hr hc d (fun r M' hq => ?_)
    obtain ⟨rfl, rfl⟩ := hq; rw [h] at kk; exact kk
  · refine r_cU0i (by rw [hy]; exact cuX8_137_3) (kX3_kind g M a ) ha h ⟨by show 0 + 1 ≤ _; omega, by show 8 + (1 + 11) + 0 ≤ _; omega⟩ hr hc d (fun r M' hq => ?_)
    obtain ⟨rfl, rfl⟩ := hq; rw [h] at kk; exact kk
set_option maxHeartbeats 4000000 in
theorem r_v_robs {a : Nat} {p : Int32} (hy : y.cls = RX8) (ha : a < mN M) (ht : isTh (mT M a)) (hR : 1 ≤ R.frames ∧ 21 ≤ R.locals) (hr : (rest.map fun v => v.category).sum ≤ 8) (hc : k ≤ R.cells ∧ sl ≤ R.slots) (d : decode cc pc = .ok (.invokevirtual 287, 3)) (kk : Vj x g y cc nL ret R Q k sl M (pc + 3) lv (.int (if p = 0 then mI M a 0 else mI M a 1) :: rest)) : Vj x g y cc nL ret R Q k sl M pc lv (.int p :: .ref (g.1 + a) :: rest) := by
  rcases ht with h | h | h | h | h
  · refine r_cU1i (by rw [hy]; exact cuX8_287_7) (kX7_robs g M a ha (by rw [h]; unfold isTh; simp) p) ha h ⟨by show 0 + 1 ≤ _; omega, by show 8 + (2 + 11) + 0 ≤ _; omega⟩ hr hc d (fun r M' hq => ?_)
    obtain ⟨rfl, rfl⟩ := hq; exact kk
  · refine r_cU1i (by rw [hy]; exact cuX8_287_6) (kX7_robs g M a ha (by rw [h]; unfold isTh; simp) p) ha h ⟨by show 0 + 1 ≤ _; omega, by show 8 + (2 + 11) + 0 ≤ _; omega⟩ hr hc d (fun r M' hq => ?_)
    obtain ⟨rfl, rfl⟩ := hq; exact kk
  · refine r_cU1i (by rw [hy]; exact cuX8_287_0) (kX7_robs g M a ha (by rw [h]; unfold isTh; simp) p) ha h ⟨by show 0 + 1 ≤ _; omega, by show 8 + (2 + 11) + 0 ≤ _; omega⟩ hr hc d (fun r M' hq => ?_)
    obtain ⟨rfl, rfl⟩ := hq; exact kk
  · refine r_cU1i (by rw [hy]; exact cuX8_287_2) (kX7_robs g M a ha (by rw [h]; unfold isTh; simp) p) ha h ⟨by show 0 + 1 ≤ _; omega, by show 8 + (2 + 11) + 0 ≤ _; omega⟩ hr hc d (fun r M' hq => ?_)
    obtain ⟨rfl, rfl⟩ := hq; exact kk
  · refine r_cU1i (by rw [hy]; exact cuX8_287_3) (kX7_robs g M a ha (by rw [h]; unfold isTh; simp) p) ha h ⟨by show 0 + 1 ≤ _; omega, by show 8 + (2 + 11) + 0 ≤ _; omega⟩ hr hc d (fun r M' hq => ?_)
    obtain ⟨rfl, rfl⟩ := hq; exact kk
set_option maxHeartbeats 4000000 in
theorem r_v_isKeptOut {a : Nat} {p v : Int32} (hy : y.cls = RX8) (ha : a < mN M) (ht : isTh (mT M a)) (hp : p = 0 ∨ p = 1) (hR : 1 ≤ R.frames ∧ 22 ≤ R.locals) (hr : (rest.map fun v => v.category).sum ≤ 8) (hc : k ≤ R.cells ∧ sl ≤ R.slots) (d : decode cc pc = .ok (.invokevirtual 290, 3)) (kk : ∀ r : Int32, (r = 1 ∧ outF (kiS (mT M a)) p v) ∨ (r = 0 ∧ ¬ outF (kiS (mT M a)) p v) → Vj x g y cc nL ret R Q k sl M (pc + 3) lv (.int r :: rest)) : Vj x g y cc nL ret R Q k sl M pc lv (.int v :: .int p :: .ref (g.1 + a) :: rest) := by
  rcases ht with h | h | h | h | h
  · refine r_cU2i (by rw [hy]; exact cuX8_290_7) (kX7_isKeptOut g M a p v) ha h ⟨by show 0 + 1 ≤ _; omega, by show 8 + (3 + 11) + 0 ≤ _; omega⟩ hr hc d (fun r M' hq => ?_)
    obtain ⟨rfl, rfl⟩ := hq
    refine kk _ ?_
    rw [h]; unfold outF; simp only [kiS, thK]; by_cases e1 : p = 0 <;> by_cases e2 : 0 < v <;> simp [e1, e2]
  · refine r_cU2i (by rw [hy]; exact cuX8_290_6) (kX7_isKeptOut g M a p v) ha h ⟨by show 0 + 1 ≤ _; omega, by show 8 + (3 + 11) + 0 ≤ _; omega⟩ hr hc d (fun r M' hq => ?_)
    obtain ⟨rfl, rfl⟩ := hq
    refine kk _ ?_
    rw [h]; unfold outF; simp only [kiS, thK]; by_cases e1 : p = 0 <;> by_cases e2 : 0 < v <;> simp [e1, e2]
  · refine r_cU2i (by rw [hy]; exact cuX8_290_0) (kX7_isKeptOut g M a p v) ha h ⟨by show 0 + 1 ≤ _; omega, by show 8 + (3 + 11) + 0 ≤ _; omega⟩ hr hc d (fun r M' hq => ?_)
    obtain ⟨rfl, rfl⟩ := hq
    refine kk _ ?_
    rw [h]; unfold outF; simp only [kiS, thK]; by_cases e1 : p = 0 <;> by_cases e2 : 0 < v <;> simp [e1, e2]
  · refine r_cU2i (by rw [hy]; exact cuX8_290_2) (kX7_isKeptOut g M a p v) ha h ⟨by show 0 + 1 ≤ _; omega, by show 8 + (3 + 11) + 0 ≤ _; omega⟩ hr hc d (fun r M' hq => ?_)
    obtain ⟨rfl, rfl⟩ := hq
    refine kk _ ?_
    rw [h]; unfold outF; simp only [kiS, thK]; by_cases e1 : p = 0 <;> by_cases e2 : 0 < v <;> simp [e1, e2]
  · refine r_cU2i (by rw [hy]; exact cuX8_290_3) (kX3_isKeptOut g M a p v hp) ha h ⟨by show 0 + 1 ≤ _; omega, by show 8 + (3 + 11) + 0 ≤ _; omega⟩ hr hc d (fun r M' hq => ?_)
    obtain ⟨rfl, rfl⟩ := hq
    refine kk _ ?_
    rw [h]; unfold outF; simp only [kiS, thK]; rcases hp with e | e <;> rw [e] <;> simp
set_option maxHeartbeats 4000000 in
theorem r_v_mostTaken {a : Nat} (hy : y.cls = RX8) (ha : a < mN M) (ht : isTh (mT M a)) (hR : 1 ≤ R.frames ∧ 20 ≤ R.locals) (hr : (rest.map fun v => v.category).sum ≤ 8) (hc : k ≤ R.cells ∧ sl ≤ R.slots) (d : decode cc pc = .ok (.invokevirtual 294, 3)) (kk : Vj x g y cc nL ret R Q k sl M (pc + 3) lv (.int (nI (mostF (kiS (mT M a)))) :: rest)) : Vj x g y cc nL ret R Q k sl M pc lv (.ref (g.1 + a) :: rest) := by
  rcases ht with h | h | h | h | h
  · refine r_cU0i (by rw [hy]; exact cuX8_294_7) (kX7_mostTaken g M a ) ha h ⟨by show 0 + 1 ≤ _; omega, by show 8 + (1 + 11) + 0 ≤ _; omega⟩ hr hc d (fun r M' hq => ?_)
    obtain ⟨rfl, rfl⟩ := hq; rw [h] at kk; exact kk
  · refine r_cU0i (by rw [hy]; exact cuX8_294_6) (kX6_mostTaken g M a ) ha h ⟨by show 0 + 1 ≤ _; omega, by show 8 + (1 + 11) + 0 ≤ _; omega⟩ hr hc d (fun r M' hq => ?_)
    obtain ⟨rfl, rfl⟩ := hq; rw [h] at kk; exact kk
  · refine r_cU0i (by rw [hy]; exact cuX8_294_0) (kX7_mostTaken g M a ) ha h ⟨by show 0 + 1 ≤ _; omega, by show 8 + (1 + 11) + 0 ≤ _; omega⟩ hr hc d (fun r M' hq => ?_)
    obtain ⟨rfl, rfl⟩ := hq; rw [h] at kk; exact kk
  · refine r_cU0i (by rw [hy]; exact cuX8_294_2) (kX2_mostTaken g M a ) ha h ⟨by show 0 + 1 ≤ _; omega, by show 8 + (1 + 11) + 0 ≤ _; omega⟩ hr hc d (fun r M' hq => ?_)
    obtain ⟨rfl, rfl⟩ := hq; rw [h] at kk; exact kk
  · refine r_cU0i (by rw [hy]; exact cuX8_294_3) (kX6_mostTaken g M a ) ha h ⟨by show 0 + 1 ≤ _; omega, by show 8 + (1 + 11) + 0 ≤ _; omega⟩ hr hc d (fun r M' hq => ?_)
    obtain ⟨rfl, rfl⟩ := hq; rw [h] at kk; exact kk
set_option maxHeartbeats 4000000 in
theorem r_v_likesBetter {a : Nat} {u v : Int32} (hy : y.cls = RX8) (ha : a < mN M) (ht : isTh (mT M a)) (hR : 1 ≤ R.frames ∧ 22 ≤ R.locals) (hr : (rest.map fun v => v.category).sum ≤ 8) (hc : k ≤ R.cells ∧ sl ≤ R.slots) (d : decode cc pc = .ok (.invokevirtual 301, 3)) (kk : Vj x g y cc nL ret R Q k sl M (pc + 3) lv (.int (if likes (kiS (mT M a)) u v = true then 1 else 0) :: rest)) : Vj x g y cc nL ret R Q k sl M pc lv (.int v :: .int u :: .ref (g.1 + a) :: rest) := by
  rcases ht with h | h | h | h | h
  · refine r_cU2i (by rw [hy]; exact cuX8_301_7) (kX7_likesBetter g M a u v) ha h ⟨by show 0 + 1 ≤ _; omega, by show 8 + (3 + 11) + 0 ≤ _; omega⟩ hr hc d (fun r M' hq => ?_)
    obtain ⟨rfl, rfl⟩ := hq; rw [h] at kk; simp [likes, kiS, thK] at kk; exact kk
  · refine r_cU2i (by rw [hy]; exact cuX8_301_6) (kX7_likesBetter g M a u v) ha h ⟨by show 0 + 1 ≤ _; omega, by show 8 + (3 + 11) + 0 ≤ _; omega⟩ hr hc d (fun r M' hq => ?_)
    obtain ⟨rfl, rfl⟩ := hq; rw [h] at kk; simp [likes, kiS, thK] at kk; exact kk
  · refine r_cU2i (by rw [hy]; exact cuX8_301_0) (kX0_likesBetter g M a u v) ha h ⟨by show 0 + 1 ≤ _; omega, by show 8 + (3 + 11) + 0 ≤ _; omega⟩ hr hc d (fun r M' hq => ?_)
    obtain ⟨rfl, rfl⟩ := hq; rw [h] at kk; simp [likes, kiS, thK] at kk; exact kk
  · refine r_cU2i (by rw [hy]; exact cuX8_301_2) (kX7_likesBetter g M a u v) ha h ⟨by show 0 + 1 ≤ _; omega, by show 8 + (3 + 11) + 0 ≤ _; omega⟩ hr hc d (fun r M' hq => ?_)
    obtain ⟨rfl, rfl⟩ := hq; rw [h] at kk; simp [likes, kiS, thK] at kk; exact kk
  · refine r_cU2i (by rw [hy]; exact cuX8_301_3) (kX7_likesBetter g M a u v) ha h ⟨by show 0 + 1 ≤ _; omega, by show 8 + (3 + 11) + 0 ≤ _; omega⟩ hr hc d (fun r M' hq => ?_)
    obtain ⟨rfl, rfl⟩ := hq; rw [h] at kk; simp [likes, kiS, thK] at kk; exact kk
end Disp
end
section
def isC (c : Nat) : Prop := c = 11 ∨ c = 18 ∨ c = 25
theorem St.cT {M : Mm} {c : Nat} (h : St M) (hc : isC c) : mT M c = .inl 1 := by rcases hc with e | e | e <;> rw [e] <;> exact h.T _ rfl
theorem St.cl {M : Mm} {c : Nat} (h : St M) (hc : isC c) (k : Nat) (hk : k < 7) : c + k < mN M := by rcases hc with e | e | e <;> rw [e] <;> exact h.lt (by omega)
theorem St.cl0 {M : Mm} {c : Nat} (h : St M) (hc : isC c) : c < mN M := h.cl hc 0 (by decide)
theorem St.cR0 {M : Mm} {c : Nat} (h : St M) (hc : isC c) : mR M c 0 = some (c + 1) := by rcases hc with e | e | e <;> rw [e] <;> exact h.R _ _ rfl
theorem St.cA0 {M : Mm} {c : Nat} (h : St M) (hc : isC c) : mT M (c + 1) = .inr (0, 8) := by rcases hc with e | e | e <;> rw [e] <;> exact h.T _ rfl
theorem St.cR1 {M : Mm} {c : Nat} (h : St M) (hc : isC c) : mR M c 1 = some (c + 2) := by rcases hc with e | e | e <;> rw [e] <;> exact h.R _ _ rfl
theorem St.cA1 {M : Mm} {c : Nat} (h : St M) (hc : isC c) : mT M (c + 2) = .inr (0, 8) := by rcases hc with e | e | e <;> rw [e] <;> exact h.T _ rfl
theorem St.cR2 {M : Mm} {c : Nat} (h : St M) (hc : isC c) : mR M c 2 = some (c + 3) := by rcases hc with e | e | e <;> rw [e] <;> exact h.R _ _ rfl
theorem St.cA2 {M : Mm} {c : Nat} (h : St M) (hc : isC c) : mT M (c + 3) = .inr (0, 8) := by rcases hc with e | e | e <;> rw [e] <;> exact h.T _ rfl
theorem St.cR3 {M : Mm} {c : Nat} (h : St M) (hc : isC c) : mR M c 3 = some (c + 4) := by rcases hc with e | e | e <;> rw [e] <;> exact h.R _ _ rfl
theorem St.cA3 {M : Mm} {c : Nat} (h : St M) (hc : isC c) : mT M (c + 4) = .inr (2, 8) := by rcases hc with e | e | e <;> rw [e] <;> exact h.T _ rfl
theorem St.cR4 {M : Mm} {c : Nat} (h : St M) (hc : isC c) : mR M c 4 = some (c + 5) := by rcases hc with e | e | e <;> rw [e] <;> exact h.R _ _ rfl
theorem St.cA4 {M : Mm} {c : Nat} (h : St M) (hc : isC c) : mT M (c + 5) = .inr (2, 8) := by rcases hc with e | e | e <;> rw [e] <;> exact h.T _ rfl
theorem St.cR5 {M : Mm} {c : Nat} (h : St M) (hc : isC c) : mR M c 5 = some (c + 6) := by rcases hc with e | e | e <;> rw [e] <;> exact h.R _ _ rfl
theorem St.cA5 {M : Mm} {c : Nat} (h : St M) (hc : isC c) : mT M (c + 6) = .inr (0, 8) := by rcases hc with e | e | e <;> rw [e] <;> exact h.T _ rfl
theorem lp_lt {v b : Int32} {i n : Nat} (hv : v = nI i) (hb : b = nI n) (h : ¬ b ≤ v) (hi : i ≤ n) (hn : n < 2 ^ 31) : i < n := by
  rcases Nat.lt_or_ge i n with q | q
  · exact q
  · exfalso
    apply h
    rw [hv, hb]
    exact nI_le q (by omega)
theorem lp_ge {v b : Int32} {i n : Nat} (hv : v = nI i) (hb : b = nI n) (h : b ≤ v) (hi : i ≤ n) (hn : n < 2 ^ 31) : i = n := by
  rw [hv, hb] at h
  have := (nI_leI hn (by omega)).mp h
  omega
theorem nI_inc {v : Int32} {i : Nat} (hv : v = nI i) : v + Int32.ofInt 1 = nI (i + 1) := by rw [hv]; exact nI_1 i
/-- what of a city months change and ask: where the spoons are, locks, dogs, who is paid -/
def CD (c : Nat) (M : Mm) (σ : Ab) (pd dg lo ps : Rw) : Prop := (∀ s, s < zS σ → mI M (c + 1) s = ps s) ∧ (∀ h, h < 8 → mI M (c + 3) h = lo h) ∧ (∀ h, h < 8 → mI M (c + 4) h = dg h ∧ (dg h = 0 ∨ dg h = 1)) ∧ (∀ t, t < zN σ → mI M (c + 5) t = pd t ∧ (pd t = 0 ∨ pd t = 1))
def RD (M : Mm) (σ : Ab) (dg lo ps : Rw) : Prop := (∀ s, s < zS σ → mI M 51 s = ps s) ∧ (∀ h, h < 8 → mI M 52 h = lo h) ∧ (∀ h, h < 8 → mI M 44 13 >>> (nI h &&& 31) &&& 1 = dg h)
theorem max0 {v : Int32} (h : 0 ≤ v) : (if (0 : Int32) < v - 1 then v - 1 else 0) = (if 0 < v then v - 1 else 0) := by grind
theorem va_up_if {α : Type} (f : Nat → α) (k : Nat) (v : α) (j : Nat) : va_up f k v j = if j = k then v else f j := rfl
theorem isC.ne {c : Nat} (h : isC c) : 11 ≤ c ∧ c ≤ 25 := by rcases h with e | e | e <;> rw [e] <;> decide
def rmX1_lapseLocks : Room := { frames := 1, cells := 0, slots := 0, locals := 21 }
set_option maxHeartbeats 4000000 in
set_option maxRecDepth 100000 in
theorem lp_lapse (g : Gx) (x : Cx) (M : Mm) (c : Nat) (hc : isC c) (hs : St M) (lo : Rw) (hlo : ∀ h, h < 8 → mI M (c + 3) h = lo h) (hlo0 : ∀ h, h < 8 → 0 ≤ lo h) : ∀ (n : Nat) (i : Nat) (v : Int32) (M1 : Mm), i ≤ 8 → 8 - i < n → v = nI i → Fr [c + 3] [] M M1 → (∀ j, j < i → mI M1 (c + 3) j = lapF lo j) → (∀ j, i ≤ j → j < 8 → mI M1 (c + 3) j = lo j) → Vj x g yX1_lapseLocks cX1_lapseLocks 2 none rmX1_lapseLocks (Qm x g rmX1_lapseLocks.cells rmX1_lapseLocks.slots (pV fun M' => Fr [c + 3] [] M M' ∧ ∀ h, h < 8 → mI M' (c + 3) h = lapF lo h)) 0 0 M1 2 [(0, some (.ref (g.1 + c))), (1, some (.int v))] [] := by
  intro n
  induction n with
  | zero => intro i v M1 hi8 hn hv hF h1 h2; omega
  | succ n ih =>
    intro i v M1 hi8 hn hv hF h1 h2
    have hs1 := hs.fr hF
    refine r_iload_n dX1_lapseLocks_2 rfl ?_
    refine r_bipush (v := 8) dX1_lapseLocks_3 (by decide) ?_
    refine r_icmp_ge 32 dX1_lapseLocks_5 (by decide) (fun c5 => ?_) (fun c5 => ?_)
    · skip
      exact r_ret dX1_lapseLocks_32 ⟨rfl, hF, fun h hh => h1 h (by have := lp_ge (n := 8) hv rfl c5 hi8 (by decide); omega)⟩
    · skip
      have hi : i < 8 := lp_lt (n := 8) hv rfl c5 hi8 (by decide)
      refine r_aload_n dX1_lapseLocks_8 rfl ?_
      refine r_getR flX1_18_1 rfl (hs1.cl0 hc) (hs1.cT hc) (hs1.cR2 hc) dX1_lapseLocks_9 ?_
      refine r_iload_n dX1_lapseLocks_12 rfl ?_
      refine r_iconst (v := 0) dX1_lapseLocks_13 (by decide) ?_
      refine r_aload_n dX1_lapseLocks_14 rfl ?_
      refine r_getR flX1_18_1 rfl (hs1.cl0 hc) (hs1.cT hc) (hs1.cR2 hc) dX1_lapseLocks_15 ?_
      refine r_iload_n dX1_lapseLocks_18 rfl ?_
      refine r_ial (hs1.cA2 hc) (hs1.cl hc 3 (by decide)) (ix_of hv hi (by decide)) dX1_lapseLocks_19 ?_
      refine r_iconst (v := 1) dX1_lapseLocks_20 (by decide) ?_
      refine r_isub dX1_lapseLocks_21 ?_
      refine r_max tw476 tw477 tw63 tw478 (Nat.le_of_ble_eq_true rfl) (Nat.le_of_ble_eq_true rfl) (Nat.le_of_ble_eq_true rfl) (Nat.le_of_ble_eq_true rfl) dX1_lapseLocks_22 ?_
      refine r_ias (hs1.cA2 hc) (hs1.cl hc 3 (by decide)) (ix_of hv hi (by decide)) dX1_lapseLocks_25 ?_
      refine r_iinc dX1_lapseLocks_26 rfl rfl rfl ?_
      refine r_goto 2 dX1_lapseLocks_29 (by decide) ?_
      refine r_lv (lvSc rfl (lvSc rfl lvS0)) (ih (i + 1) _ _ (by omega) (by omega) (nI_inc hv) (hF.sI (by simp)) (fun j hj => ?_) (fun j h3 h4 => ?_))
      · rw [mI_sI, va_up_if]
        by_cases e : j = i
        · rw [if_pos e, e, h2 i (by omega) hi, max0 (hlo0 i hi)]
          simp [lapF, hi]
        · rw [if_neg e]; exact h1 j (by omega)
      · rw [mI_sI, va_up_ne _ _ (by omega)]
        exact h2 j (by omega) h4
set_option maxHeartbeats 4000000 in
set_option maxRecDepth 100000 in
theorem kX1_lapseLocks (g : Gx) (M : Mm) (c : Nat) (hc : isC c) (hs : St M) (lo : Rw) (hlo : ∀ h, h < 8 → mI M (c + 3) h = lo h) (hlo0 : ∀ h, h < 8 → 0 ≤ lo h) : Ct g yX1_lapseLocks cX1_lapseLocks 2 none rmX1_lapseLocks [.ref (g.1 + c)] M (pV fun M' => Fr [c + 3] [] M M' ∧ ∀ h, h < 8 → mI M' (c + 3) h = lapF lo h) := by
  refine Ct.of rfl (Nat.le_of_ble_eq_true rfl) (fun x => ?_)
  refine r_iconst (v := 0) dX1_lapseLocks_0 (by decide) ?_
  refine r_istore_n dX1_lapseLocks_1 (by decide) rfl ?_
  exact r_lv (lvSc rfl (lvSc rfl lvS0)) (lp_lapse g x M c hc hs lo hlo hlo0 9 0 0 M (by omega) (by omega) rfl (Fr.rf _ _ _) (fun j hj => by omega) (fun j h1 h2 => hlo j h2))
end
section
def b01 (v : Int32) : Prop := v = 0 ∨ v = 1
def cpR (c d k : Nat) (M M1 : Mm) (i : Nat) : Prop := ∀ j, j < i → mI M1 (c + k) j = mI M (d + k) j
theorem cpR.ne {c d k l : Nat} {M M1 : Mm} {i i' : Nat} {v : Int32} (h : cpR c d k M M1 i) (hk : k ≠ l) : cpR c d k M (sI M1 (c + l) i' v) i := fun j hj => (congrFun (mI_sI_ne (by omega)) j).trans (h j hj)
theorem cpR.n0 {c d k : Nat} {M M1 : Mm} {i i' : Nat} {v : Int32} (h : cpR c d k M M1 i) (hk : k ≠ 0) : cpR c d k M (sI M1 c i' v) i := fun j hj => (congrFun (mI_sI_ne (by omega)) j).trans (h j hj)
theorem cpR.st {c d k : Nat} {M M1 : Mm} {i : Nat} {v : Int32} (h : cpR c d k M M1 i) (hv : v = mI M (d + k) i) : cpR c d k M (sI M1 (c + k) i v) (i + 1) := by
  intro j hj
  rw [mI_sI, va_up_if]
  by_cases e : j = i
  · rw [if_pos e, hv, e]
  · rw [if_neg e]; exact h j (by omega)
def cF (c : Nat) : List Nat := [c, c + 1, c + 2, c + 3, c + 4, c + 5, c + 6]
theorem cF_in {c a : Nat} : a ∈ cF c ↔ c ≤ a ∧ a ≤ c + 6 := by unfold cF; simp; omega
theorem isC.apart {c d : Nat} (hc : isC c) (hd : isC d) (h : c ≠ d) : c + 6 < d ∨ d + 6 < c := by unfold isC at hc hd; omega
theorem cF_out {c d k : Nat} (hc : isC c) (hd : isC d) (h : c ≠ d) (hk : k ≤ 6) : d + k ∉ cF c := by
  have := hc.apart hd h
  rw [cF_in]; omega
def rmX1_takeOver : Room := { frames := 0, cells := 0, slots := 0, locals := 0 }
set_option maxHeartbeats 4000000 in
set_option maxRecDepth 100000 in
theorem lp_take3 (g : Gx) (x : Cx) (M : Mm) (c d : Nat) (hc : isC c) (hd : isC d) (hcd : c ≠ d) (hs : St M) (hb : ∀ j, j < 8 → b01 (mI M (d + 4) j) ∧ b01 (mI M (d + 5) j)) : ∀ (n : Nat) (i : Nat) (v : Int32) (M1 : Mm), i ≤ 8 → 8 - i < n → v = nI i → Fr (cF c) [] M M1 → cpR c d 1 M M1 8 → cpR c d 2 M M1 8 → cpR c d 3 M M1 8 → cpR c d 4 M M1 8 → cpR c d 5 M M1 i → cpR c d 6 M M1 i → Vj x g yX1_takeOver cX1_takeOver 3 none rmX1_takeOver (Qm x g rmX1_takeOver.cells rmX1_takeOver.slots (pV fun M' => Fr (cF c) [] M M' ∧ (∀ k, 1 ≤ k → k ≤ 6 → cpR c d k M M' 8) ∧ mI M' c 6 = mI M d 6 ∧ mI M' c 7 = mI M d 7)) 0 0 M1 78 [(0, some (.ref (g.1 + c))), (1, some (.ref (g.1 + d))), (2, some (.int v))] [] := by
  intro n
  induction n with
  | zero => intro i v M1 hi8 hn hv hF k1 k2 k3 k4 k5 k6; omega
  | succ n ih =>
    intro i v M1 hi8 hn hv hF k1 k2 k3 k4 k5 k6
    have hs1 := hs.fr hF
    refine r_iload_n dX1_takeOver_78 rfl ?_
    refine r_bipush (v := 8) dX1_takeOver_79 (by decide) ?_
    refine r_icmp_ge 114 dX1_takeOver_81 (by decide) (fun c81 => ?_) (fun c81 => ?_)
    · skip
      refine r_aload_n dX1_takeOver_114 rfl ?_
      refine r_aload_n dX1_takeOver_115 rfl ?_
      refine r_getI flX1_31_1 rfl (hs1.cl0 hd) (hs1.cT hd) dX1_takeOver_116 ?_
      refine r_putI fpX1_31_1 rfl (hs1.cl0 hc) (hs1.cT hc) rfl rfl dX1_takeOver_119 ?_
      refine r_aload_n dX1_takeOver_122 rfl ?_
      refine r_aload_n dX1_takeOver_123 rfl ?_
      refine r_getI flX1_35_1 rfl (hs1.cl0 hd) (hs1.cT hd) dX1_takeOver_124 ?_
      refine r_putI fpX1_35_1 rfl (hs1.cl0 hc) (hs1.cT hc) rfl rfl dX1_takeOver_127 ?_
      exact r_ret dX1_takeOver_130 (by
            have e := lp_ge (n := 8) hv rfl c81 hi8 (by decide)
            rw [e] at k5 k6
            refine ⟨rfl, (hF.sI (cF_in.mpr (by omega))).sI (cF_in.mpr (by omega)), fun k h1 h2 => ?_, ?_, ?_⟩
            · rcases (show k = 1 ∨ k = 2 ∨ k = 3 ∨ k = 4 ∨ k = 5 ∨ k = 6 by omega) with e | e | e | e | e | e <;> rw [e]
              · exact (k1.n0 (by decide)).n0 (by decide)
              · exact (k2.n0 (by decide)).n0 (by decide)
              · exact (k3.n0 (by decide)).n0 (by decide)
              · exact (k4.n0 (by decide)).n0 (by decide)
              · exact (k5.n0 (by decide)).n0 (by decide)
              · exact (k6.n0 (by decide)).n0 (by decide)
            · rw [mI_sI, va_up_ne _ _ (by decide), mI_sI, va_up_self, hF.2.1 d (cF_out (k := 0) hc hd hcd (by decide))]
            · rw [mI_sI, va_up_self, mI_sI_ne (fun e => hcd e.symm), hF.2.1 d (cF_out (k := 0) hc hd hcd (by decide))])
    · skip
      have hi : i < 8 := lp_lt (n := 8) hv rfl c81 hi8 (by decide)
      refine r_aload_n dX1_takeOver_84 rfl ?_
      refine r_getR flX1_25_1 rfl (hs1.cl0 hc) (hs1.cT hc) (hs1.cR4 hc) dX1_takeOver_85 ?_
      refine r_iload_n dX1_takeOver_88 rfl ?_
      refine r_aload_n dX1_takeOver_89 rfl ?_
      refine r_getR flX1_25_1 rfl (hs1.cl0 hd) (hs1.cT hd) (hs1.cR4 hd) dX1_takeOver_90 ?_
      refine r_iload_n dX1_takeOver_93 rfl ?_
      refine r_zal (hs1.cA4 hd) (hs1.cl hd 5 (by decide)) (ix_of hv hi (by decide)) dX1_takeOver_94 ?_
      refine r_zas (hs1.cA4 hc) (hs1.cl hc 5 (by decide)) (ix_of hv hi (by decide)) (by rw [show mI _ (d + 5) i = mI M (d + 5) i from (congrFun (hF.2.1 _ (cF_out hc hd hcd (by decide))) i)]; exact (hb i hi).2) dX1_takeOver_95 ?_
      refine r_aload_n dX1_takeOver_96 rfl ?_
      refine r_getR flX1_28_1 rfl (hs1.cl0 hc) (hs1.cT hc) (hs1.cR5 hc) dX1_takeOver_97 ?_
      refine r_iload_n dX1_takeOver_100 rfl ?_
      refine r_aload_n dX1_takeOver_101 rfl ?_
      refine r_getR flX1_28_1 rfl (hs1.cl0 hd) (hs1.cT hd) (hs1.cR5 hd) dX1_takeOver_102 ?_
      refine r_iload_n dX1_takeOver_105 rfl ?_
      refine r_ial (hs1.cA5 hd) (hs1.cl hd 6 (by decide)) (ix_of hv hi (by decide)) dX1_takeOver_106 ?_
      refine r_ias (hs1.cA5 hc) (hs1.cl hc 6 (by decide)) (ix_of hv hi (by decide)) dX1_takeOver_107 ?_
      refine r_iinc dX1_takeOver_108 rfl rfl rfl ?_
      refine r_goto 78 dX1_takeOver_111 (by decide) ?_
      exact r_lv (lvSc rfl (lvSc rfl (lvSc rfl lvS0))) (ih (i + 1) _ _ (by omega) (by omega) (nI_inc hv) ((hF.sI (cF_in.mpr (by omega))).sI (cF_in.mpr (by omega))) ((k1.ne (by decide)).ne (by decide)) ((k2.ne (by decide)).ne (by decide)) ((k3.ne (by decide)).ne (by decide)) ((k4.ne (by decide)).ne (by decide)) ((k5.st (congrFun (hF.2.1 _ (cF_out hc hd hcd (by decide))) i)).ne (by decide)) ((k6.ne (by decide)).st (congrFun ((hF.sI (cF_in.mpr (by omega))).2.1 _ (cF_out hc hd hcd (by decide))) i)))
set_option maxHeartbeats 4000000 in
set_option maxRecDepth 100000 in
theorem lp_take2 (g : Gx) (x : Cx) (M : Mm) (c d : Nat) (hc : isC c) (hd : isC d) (hcd : c ≠ d) (hs : St M) (hb : ∀ j, j < 8 → b01 (mI M (d + 4) j) ∧ b01 (mI M (d + 5) j)) : ∀ (n : Nat) (i : Nat) (v : Int32) (M1 : Mm), i ≤ 8 → 8 - i < n → v = nI i → Fr (cF c) [] M M1 → cpR c d 1 M M1 8 → cpR c d 2 M M1 8 → cpR c d 3 M M1 i → cpR c d 4 M M1 i → Vj x g yX1_takeOver cX1_takeOver 3 none rmX1_takeOver (Qm x g rmX1_takeOver.cells rmX1_takeOver.slots (pV fun M' => Fr (cF c) [] M M' ∧ (∀ k, 1 ≤ k → k ≤ 6 → cpR c d k M M' 8) ∧ mI M' c 6 = mI M d 6 ∧ mI M' c 7 = mI M d 7)) 0 0 M1 40 [(0, some (.ref (g.1 + c))), (1, some (.ref (g.1 + d))), (2, some (.int v))] [] := by
  intro n
  induction n with
  | zero => intro i v M1 hi8 hn hv hF k1 k2 k3 k4; omega
  | succ n ih =>
    intro i v M1 hi8 hn hv hF k1 k2 k3 k4
    have hs1 := hs.fr hF
    refine r_iload_n dX1_takeOver_40 rfl ?_
    refine r_bipush (v := 8) dX1_takeOver_41 (by decide) ?_
    refine r_icmp_ge 76 dX1_takeOver_43 (by decide) (fun c43 => ?_) (fun c43 => ?_)
    · skip
      refine r_iconst (v := 0) dX1_takeOver_76 (by decide) ?_
      refine r_istore_n dX1_takeOver_77 (by decide) rfl ?_
      exact r_lv (lvSc rfl (lvSc rfl (lvSc rfl lvS0))) (lp_take3 g x M c d hc hd hcd hs hb 9 0 0 M1 (by omega) (by omega) rfl hF k1 k2 (by rw [lp_ge (n := 8) hv rfl c43 hi8 (by decide)] at k3; exact k3) (by rw [lp_ge (n := 8) hv rfl c43 hi8 (by decide)] at k4; exact k4) (fun j hj => by omega) (fun j hj => by omega))
    · skip
      have hi : i < 8 := lp_lt (n := 8) hv rfl c43 hi8 (by decide)
      refine r_aload_n dX1_takeOver_46 rfl ?_
      refine r_getR flX1_18_1 rfl (hs1.cl0 hc) (hs1.cT hc) (hs1.cR2 hc) dX1_takeOver_47 ?_
      refine r_iload_n dX1_takeOver_50 rfl ?_
      refine r_aload_n dX1_takeOver_51 rfl ?_
      refine r_getR flX1_18_1 rfl (hs1.cl0 hd) (hs1.cT hd) (hs1.cR2 hd) dX1_takeOver_52 ?_
      refine r_iload_n dX1_takeOver_55 rfl ?_
      refine r_ial (hs1.cA2 hd) (hs1.cl hd 3 (by decide)) (ix_of hv hi (by decide)) dX1_takeOver_56 ?_
      refine r_ias (hs1.cA2 hc) (hs1.cl hc 3 (by decide)) (ix_of hv hi (by decide)) dX1_takeOver_57 ?_
      refine r_aload_n dX1_takeOver_58 rfl ?_
      refine r_getR flX1_21_1 rfl (hs1.cl0 hc) (hs1.cT hc) (hs1.cR3 hc) dX1_takeOver_59 ?_
      refine r_iload_n dX1_takeOver_62 rfl ?_
      refine r_aload_n dX1_takeOver_63 rfl ?_
      refine r_getR flX1_21_1 rfl (hs1.cl0 hd) (hs1.cT hd) (hs1.cR3 hd) dX1_takeOver_64 ?_
      refine r_iload_n dX1_takeOver_67 rfl ?_
      refine r_zal (hs1.cA3 hd) (hs1.cl hd 4 (by decide)) (ix_of hv hi (by decide)) dX1_takeOver_68 ?_
      refine r_zas (hs1.cA3 hc) (hs1.cl hc 4 (by decide)) (ix_of hv hi (by decide)) (by rw [show mI _ (d + 4) i = mI M (d + 4) i from (congrFun ((hF.sI (cF_in.mpr (by omega))).2.1 _ (cF_out hc hd hcd (by decide))) i)]; exact (hb i hi).1) dX1_takeOver_69 ?_
      refine r_iinc dX1_takeOver_70 rfl rfl rfl ?_
      refine r_goto 40 dX1_takeOver_73 (by decide) ?_
      exact r_lv (lvSc rfl (lvSc rfl (lvSc rfl lvS0))) (ih (i + 1) _ _ (by omega) (by omega) (nI_inc hv) ((hF.sI (cF_in.mpr (by omega))).sI (cF_in.mpr (by omega))) ((k1.ne (by decide)).ne (by decide)) ((k2.ne (by decide)).ne (by decide)) ((k3.st (congrFun (hF.2.1 _ (cF_out hc hd hcd (by decide))) i)).ne (by decide)) ((k4.ne (by decide)).st (congrFun ((hF.sI (cF_in.mpr (by omega))).2.1 _ (cF_out hc hd hcd (by decide))) i)))
set_option maxHeartbeats 4000000 in
set_option maxRecDepth 100000 in
theorem lp_take1 (g : Gx) (x : Cx) (M : Mm) (c d : Nat) (hc : isC c) (hd : isC d) (hcd : c ≠ d) (hs : St M) (hb : ∀ j, j < 8 → b01 (mI M (d + 4) j) ∧ b01 (mI M (d + 5) j)) : ∀ (n : Nat) (i : Nat) (v : Int32) (M1 : Mm), i ≤ 8 → 8 - i < n → v = nI i → Fr (cF c) [] M M1 → cpR c d 1 M M1 i → cpR c d 2 M M1 i → Vj x g yX1_takeOver cX1_takeOver 3 none rmX1_takeOver (Qm x g rmX1_takeOver.cells rmX1_takeOver.slots (pV fun M' => Fr (cF c) [] M M' ∧ (∀ k, 1 ≤ k → k ≤ 6 → cpR c d k M M' 8) ∧ mI M' c 6 = mI M d 6 ∧ mI M' c 7 = mI M d 7)) 0 0 M1 2 [(0, some (.ref (g.1 + c))), (1, some (.ref (g.1 + d))), (2, some (.int v))] [] := by
  intro n
  induction n with
  | zero => intro i v M1 hi8 hn hv hF k1 k2; omega
  | succ n ih =>
    intro i v M1 hi8 hn hv hF k1 k2
    have hs1 := hs.fr hF
    refine r_iload_n dX1_takeOver_2 rfl ?_
    refine r_bipush (v := 8) dX1_takeOver_3 (by decide) ?_
    refine r_icmp_ge 38 dX1_takeOver_5 (by decide) (fun c5 => ?_) (fun c5 => ?_)
    · skip
      refine r_iconst (v := 0) dX1_takeOver_38 (by decide) ?_
      refine r_istore_n dX1_takeOver_39 (by decide) rfl ?_
      exact r_lv (lvSc rfl (lvSc rfl (lvSc rfl lvS0))) (lp_take2 g x M c d hc hd hcd hs hb 9 0 0 M1 (by omega) (by omega) rfl hF (by rw [lp_ge (n := 8) hv rfl c5 hi8 (by decide)] at k1; exact k1) (by rw [lp_ge (n := 8) hv rfl c5 hi8 (by decide)] at k2; exact k2) (fun j hj => by omega) (fun j hj => by omega))
    · skip
      have hi : i < 8 := lp_lt (n := 8) hv rfl c5 hi8 (by decide)
      refine r_aload_n dX1_takeOver_8 rfl ?_
      refine r_getR flX1_9_1 rfl (hs1.cl0 hc) (hs1.cT hc) (hs1.cR0 hc) dX1_takeOver_9 ?_
      refine r_iload_n dX1_takeOver_12 rfl ?_
      refine r_aload_n dX1_takeOver_13 rfl ?_
      refine r_getR flX1_9_1 rfl (hs1.cl0 hd) (hs1.cT hd) (hs1.cR0 hd) dX1_takeOver_14 ?_
      refine r_iload_n dX1_takeOver_17 rfl ?_
      refine r_ial (hs1.cA0 hd) (hs1.cl hd 1 (by decide)) (ix_of hv hi (by decide)) dX1_takeOver_18 ?_
      refine r_ias (hs1.cA0 hc) (hs1.cl hc 1 (by decide)) (ix_of hv hi (by decide)) dX1_takeOver_19 ?_
      refine r_aload_n dX1_takeOver_20 rfl ?_
      refine r_getR flX1_15_1 rfl (hs1.cl0 hc) (hs1.cT hc) (hs1.cR1 hc) dX1_takeOver_21 ?_
      refine r_iload_n dX1_takeOver_24 rfl ?_
      refine r_aload_n dX1_takeOver_25 rfl ?_
      refine r_getR flX1_15_1 rfl (hs1.cl0 hd) (hs1.cT hd) (hs1.cR1 hd) dX1_takeOver_26 ?_
      refine r_iload_n dX1_takeOver_29 rfl ?_
      refine r_ial (hs1.cA1 hd) (hs1.cl hd 2 (by decide)) (ix_of hv hi (by decide)) dX1_takeOver_30 ?_
      refine r_ias (hs1.cA1 hc) (hs1.cl hc 2 (by decide)) (ix_of hv hi (by decide)) dX1_takeOver_31 ?_
      refine r_iinc dX1_takeOver_32 rfl rfl rfl ?_
      refine r_goto 2 dX1_takeOver_35 (by decide) ?_
      exact r_lv (lvSc rfl (lvSc rfl (lvSc rfl lvS0))) (ih (i + 1) _ _ (by omega) (by omega) (nI_inc hv) ((hF.sI (cF_in.mpr (by omega))).sI (cF_in.mpr (by omega)))  ((k1.st (congrFun (hF.2.1 _ (cF_out hc hd hcd (by decide))) i)).ne (by decide)) ((k2.ne (by decide)).st (congrFun ((hF.sI (cF_in.mpr (by omega))).2.1 _ (cF_out hc hd hcd (by decide))) i)))
set_option maxHeartbeats 4000000 in
set_option maxRecDepth 100000 in
theorem kX1_takeOver (g : Gx) (M : Mm) (c d : Nat) (hc : isC c) (hd : isC d) (hcd : c ≠ d) (hs : St M) (hb : ∀ j, j < 8 → b01 (mI M (d + 4) j) ∧ b01 (mI M (d + 5) j)) : Ct g yX1_takeOver cX1_takeOver 3 none rmX1_takeOver [.ref (g.1 + c), .ref (g.1 + d)] M (pV fun M' => Fr (cF c) [] M M' ∧ (∀ k, 1 ≤ k → k ≤ 6 → cpR c d k M M' 8) ∧ mI M' c 6 = mI M d 6 ∧ mI M' c 7 = mI M d 7) := by
  refine Ct.of rfl (Nat.le_of_ble_eq_true rfl) (fun x => ?_)
  refine r_iconst (v := 0) dX1_takeOver_0 (by decide) ?_
  refine r_istore_n dX1_takeOver_1 (by decide) rfl ?_
  exact r_lv (lvSc rfl (lvSc rfl (lvSc rfl lvS0))) (lp_take1 g x M c d hc hd hcd hs hb 9 0 0 M (by omega) (by omega) rfl (Fr.rf _ _ _) (fun j hj => by omega) (fun j hj => by omega))
end
section
theorem CV1.fr {σ : Ab} {M M' : Mm} {is ls : List Nat} (h : CV1 σ M) (hs : St M) (w : Wf σ) (f : Fr is ls M M') (hi : ∀ a ∈ is, a ≠ 0 ∧ a ≠ 9 ∧ a ≠ 10 ∧ (a < 36 ∨ (44 ≤ a ∧ a < 59))) : CV1 σ M' := by
  have n0 : 0 ∉ is := fun q => (hi 0 q).1 rfl
  have n9 : 9 ∉ is := fun q => (hi 9 q).2.1 rfl
  have n10 : 10 ∉ is := fun q => (hi 10 q).2.2.1 rfl
  refine ⟨by rw [f.2.1 0 n0]; exact h.1, by rw [f.2.1 0 n0]; exact h.2.1, fun t ht => ?_, fun s hs => by rw [f.2.1 9 n9, f.2.1 10 n10]; exact h.2.2.2 s hs⟩
  have h4 := hs.2.2.2 t (by have := w.1; omega)
  have hn : thi M t ∉ is := fun q => by have := (hi _ q).2.2.2; omega
  rw [f.1.kd, f.1.ti, f.2.1 _ hn]
  exact h.2.2.1 t ht
theorem CD.fr1 {c : Nat} {σ : Ab} {M M' : Mm} {pd dg lo ps ps' : Rw} (h : CD c M σ pd dg lo ps) (f : Fr [c + 1] [] M M') (hp : ∀ s, s < zS σ → mI M' (c + 1) s = ps' s) : CD c M' σ pd dg lo ps' :=
  ⟨hp, fun q hq => by rw [f.2.1 _ (by simp)]; exact h.2.1 q hq, fun q hq => by rw [f.2.1 _ (by simp)]; exact h.2.2.1 q hq, fun q hq => by rw [f.2.1 _ (by simp)]; exact h.2.2.2 q hq⟩
theorem CD.fr3 {c : Nat} {σ : Ab} {M M' : Mm} {pd dg lo lo' ps : Rw} (h : CD c M σ pd dg lo ps) (f : Fr [c + 3] [] M M') (hp : ∀ q, q < 8 → mI M' (c + 3) q = lo' q) : CD c M' σ pd dg lo' ps :=
  ⟨fun q hq => by rw [f.2.1 _ (by simp)]; exact h.1 q hq, hp, fun q hq => by rw [f.2.1 _ (by simp)]; exact h.2.2.1 q hq, fun q hq => by rw [f.2.1 _ (by simp)]; exact h.2.2.2 q hq⟩
theorem ok1 {c : Nat} (hc : isC c) : ∀ a ∈ [c + 1], a ≠ 0 ∧ a ≠ 9 ∧ a ≠ 10 ∧ (a < 36 ∨ (44 ≤ a ∧ a < 59)) := by have := hc.ne; intro a ha; simp at ha; omega
theorem pick_s {k : Nat} {wo ps : Rw} {h : Int32} {i : Nat} (h1 : ps i = h) (h2 : pickF k wo ps h i = -1 ∨ likes k (wo i) (wo (pickF k wo ps h i).toNatClampNeg) = true) : pickF k wo ps h (i + 1) = nI i := by rw [pickF, if_pos ⟨h1, h2⟩]
theorem pick_n {k : Nat} {wo ps : Rw} {h : Int32} {i : Nat} (h1 : ¬ ps i = h) : pickF k wo ps h (i + 1) = pickF k wo ps h i := by rw [pickF, if_neg (fun q => h1 q.1)]
theorem pick_m {k : Nat} {wo ps : Rw} {h : Int32} {i : Nat} (h1 : ¬ pickF k wo ps h i = -1) (h2 : ¬ likes k (wo i) (wo (pickF k wo ps h i).toNatClampNeg) = true) : pickF k wo ps h (i + 1) = pickF k wo ps h i := by rw [pickF, if_neg (fun q => q.2.elim h1 h2)]
def rmX8_picked : Room := { frames := 1, cells := 0, slots := 0, locals := 22 }
set_option maxHeartbeats 4000000 in
set_option maxRecDepth 100000 in
theorem lp_picked (g : Gx) (x : Cx) (M : Mm) (c : Nat) (hc : isC c) (hs : St M) (σ : Ab) (w : Wf σ) (V : CV1 σ M) (a : Nat) (ha : a < mN M) (ht : isTh (mT M a)) (h : Int32) (ps : Rw) (hps : ∀ s, s < zS σ → mI M (c + 1) s = ps s) : ∀ (n : Nat) (i : Nat) (v b : Int32), i ≤ zS σ → zS σ - i < n → v = nI i → b = pickF (kiS (mT M a)) (zw σ) ps h i → Vj x g yX8_picked cX8_picked 6 (Option.some FieldType.int) rmX8_picked (Qm x g rmX8_picked.cells rmX8_picked.slots (pI fun r M' => M' = M ∧ r = pickF (kiS (mT M a)) (zw σ) ps h (zS σ))) 0 0 M 6 [(0, some (.ref (g.1 + 0))), (1, some (.ref (g.1 + c))), (2, some (.ref (g.1 + a))), (3, some (.int h)), (4, some (.int b)), (5, some (.int v))] [] := by
  intro n
  induction n with
  | zero => intro i v b hiS hn hv hb; omega
  | succ n ih =>
    intro i v b hiS hn hv hb
    refine r_iload dX8_picked_6 rfl ?_
    refine r_aload_n dX8_picked_8 rfl ?_
    refine r_getI flX8_66_8 rfl (hs.lt (by decide)) (hs.T 0 rfl) dX8_picked_9 ?_
    refine r_icmp_ge 63 dX8_picked_12 (by decide) (fun c12 => ?_) (fun c12 => ?_)
    · skip
      refine r_iload dX8_picked_63 rfl ?_
      exact r_iret dX8_picked_65 ⟨_, rfl, rfl, by rw [hb, lp_ge (n := zS σ) hv V.2.1 c12 hiS (by have := w.2.1; omega)]⟩
    · skip
      have hi : i < zS σ := lp_lt (n := zS σ) hv V.2.1 c12 hiS (by have := w.2.1; omega)
      have h8 : i < 8 := Nat.lt_of_lt_of_le hi w.2.1
      refine r_aload_n dX8_picked_15 rfl ?_
      refine r_getR flX8_166_1 rfl (hs.cl0 hc) (hs.cT hc) (hs.cR0 hc) dX8_picked_16 ?_
      refine r_iload dX8_picked_19 rfl ?_
      refine r_ial (hs.cA0 hc) (hs.cl hc 1 (by decide)) (ix_of hv h8 (by decide)) dX8_picked_21 ?_
      refine r_iload_n dX8_picked_22 rfl ?_
      refine r_icmp_ne 57 dX8_picked_23 (by decide) (fun c23 => ?_) (fun c23 => ?_)
      · skip
        refine r_iinc dX8_picked_57 rfl rfl rfl ?_
        refine r_goto 6 dX8_picked_60 (by decide) ?_
        first
          | exact r_lv (lvSc rfl (lvSc rfl (lvSc rfl (lvSc rfl (lvSc rfl (lvSc rfl lvS0)))))) (ih (i + 1) _ _ (by omega) (by omega) (nI_inc hv) (by rw [pick_n (fun q => c23 ((hps i hi).trans q))]; exact hb))
          | exact r_lv (lvSc rfl (lvSc rfl (lvSc rfl (lvSc rfl (lvSc rfl (lvSc rfl lvS0)))))) (ih (i + 1) _ _ (by omega) (by omega) (nI_inc hv) (by rw [pick_s ((hps i hi).symm.trans c23) (Or.inl (hb.symm.trans c29))]; exact hv))
          | exact r_lv (lvSc rfl (lvSc rfl (lvSc rfl (lvSc rfl (lvSc rfl (lvSc rfl lvS0)))))) (ih (i + 1) _ _ (by omega) (by omega) (nI_inc hv) (by rw [pick_m (fun q => c29 (hb.trans q)) (fun q => by rw [ej, nI_clamp (by omega), ← (V.2.2.2 i hi).1, ← (V.2.2.2 j (by omega)).1] at q; rw [q] at c50; exact absurd c50 (by decide))]; exact hb))
          | exact r_lv (lvSc rfl (lvSc rfl (lvSc rfl (lvSc rfl (lvSc rfl (lvSc rfl lvS0)))))) (ih (i + 1) _ _ (by omega) (by omega) (nI_inc hv) (by rw [pick_s ((hps i hi).symm.trans c23) (Or.inr (by rw [ej, nI_clamp (by omega), ← (V.2.2.2 i hi).1, ← (V.2.2.2 j (by omega)).1]; by_cases q : likes (kiS (mT M a)) (mI M 9 i) (mI M 9 j) = true; exact q; rw [if_neg q] at c50; exact absurd rfl c50))]; exact hv))
      · skip
        refine r_iload dX8_picked_26 rfl ?_
        refine r_iconst (v := -1) dX8_picked_28 (by decide) ?_
        refine r_icmp_eq 53 dX8_picked_29 (by decide) (fun c29 => ?_) (fun c29 => ?_)
        · skip
          refine r_iload dX8_picked_53 rfl ?_
          refine r_istore dX8_picked_55 (by decide) rfl ?_
          refine r_iinc dX8_picked_57 rfl rfl rfl ?_
          refine r_goto 6 dX8_picked_60 (by decide) ?_
          first
            | exact r_lv (lvSc rfl (lvSc rfl (lvSc rfl (lvSc rfl (lvSc rfl (lvSc rfl lvS0)))))) (ih (i + 1) _ _ (by omega) (by omega) (nI_inc hv) (by rw [pick_n (fun q => c23 ((hps i hi).trans q))]; exact hb))
            | exact r_lv (lvSc rfl (lvSc rfl (lvSc rfl (lvSc rfl (lvSc rfl (lvSc rfl lvS0)))))) (ih (i + 1) _ _ (by omega) (by omega) (nI_inc hv) (by rw [pick_s ((hps i hi).symm.trans c23) (Or.inl (hb.symm.trans c29))]; exact hv))
            | exact r_lv (lvSc rfl (lvSc rfl (lvSc rfl (lvSc rfl (lvSc rfl (lvSc rfl lvS0)))))) (ih (i + 1) _ _ (by omega) (by omega) (nI_inc hv) (by rw [pick_m (fun q => c29 (hb.trans q)) (fun q => by rw [ej, nI_clamp (by omega), ← (V.2.2.2 i hi).1, ← (V.2.2.2 j (by omega)).1] at q; rw [q] at c50; exact absurd c50 (by decide))]; exact hb))
            | exact r_lv (lvSc rfl (lvSc rfl (lvSc rfl (lvSc rfl (lvSc rfl (lvSc rfl lvS0)))))) (ih (i + 1) _ _ (by omega) (by omega) (nI_inc hv) (by rw [pick_s ((hps i hi).symm.trans c23) (Or.inr (by rw [ej, nI_clamp (by omega), ← (V.2.2.2 i hi).1, ← (V.2.2.2 j (by omega)).1]; by_cases q : likes (kiS (mT M a)) (mI M 9 i) (mI M 9 j) = true; exact q; rw [if_neg q] at c50; exact absurd rfl c50))]; exact hv))
        · skip
          obtain ⟨j, hj, ej⟩ := (pickF_some i).resolve_left (fun q => c29 (hb.trans q))
          refine r_aload_n dX8_picked_32 rfl ?_
          refine r_aload_n dX8_picked_33 rfl ?_
          refine r_getR flX8_29_8 rfl (hs.lt (by decide)) (hs.T 0 rfl) (hs.R 0 3 rfl) dX8_picked_34 ?_
          refine r_iload dX8_picked_37 rfl ?_
          refine r_ial (hs.T 9 rfl) (hs.lt (by decide)) (ix_of hv h8 (by decide)) dX8_picked_39 ?_
          refine r_aload_n dX8_picked_40 rfl ?_
          refine r_getR flX8_29_8 rfl (hs.lt (by decide)) (hs.T 0 rfl) (hs.R 0 3 rfl) dX8_picked_41 ?_
          refine r_iload dX8_picked_44 rfl ?_
          refine r_ial (hs.T 9 rfl) (hs.lt (by decide)) (ix_of (hb.trans ej) (by omega) (by decide)) dX8_picked_46 ?_
          refine r_v_likesBetter rfl ha ht ⟨Nat.le_of_ble_eq_true rfl, Nat.le_of_ble_eq_true rfl⟩ (Nat.le_of_ble_eq_true rfl) ⟨Nat.le_of_ble_eq_true rfl, Nat.le_of_ble_eq_true rfl⟩ dX8_picked_47 ?_
          refine r_if_eq 57 dX8_picked_50 (by decide) (fun c50 => ?_) (fun c50 => ?_)
          · skip
            refine r_iinc dX8_picked_57 rfl rfl rfl ?_
            refine r_goto 6 dX8_picked_60 (by decide) ?_
            first
              | exact r_lv (lvSc rfl (lvSc rfl (lvSc rfl (lvSc rfl (lvSc rfl (lvSc rfl lvS0)))))) (ih (i + 1) _ _ (by omega) (by omega) (nI_inc hv) (by rw [pick_n (fun q => c23 ((hps i hi).trans q))]; exact hb))
              | exact r_lv (lvSc rfl (lvSc rfl (lvSc rfl (lvSc rfl (lvSc rfl (lvSc rfl lvS0)))))) (ih (i + 1) _ _ (by omega) (by omega) (nI_inc hv) (by rw [pick_s ((hps i hi).symm.trans c23) (Or.inl (hb.symm.trans c29))]; exact hv))
              | exact r_lv (lvSc rfl (lvSc rfl (lvSc rfl (lvSc rfl (lvSc rfl (lvSc rfl lvS0)))))) (ih (i + 1) _ _ (by omega) (by omega) (nI_inc hv) (by rw [pick_m (fun q => c29 (hb.trans q)) (fun q => by rw [ej, nI_clamp (by omega), ← (V.2.2.2 i hi).1, ← (V.2.2.2 j (by omega)).1] at q; rw [q] at c50; exact absurd c50 (by decide))]; exact hb))
              | exact r_lv (lvSc rfl (lvSc rfl (lvSc rfl (lvSc rfl (lvSc rfl (lvSc rfl lvS0)))))) (ih (i + 1) _ _ (by omega) (by omega) (nI_inc hv) (by rw [pick_s ((hps i hi).symm.trans c23) (Or.inr (by rw [ej, nI_clamp (by omega), ← (V.2.2.2 i hi).1, ← (V.2.2.2 j (by omega)).1]; by_cases q : likes (kiS (mT M a)) (mI M 9 i) (mI M 9 j) = true; exact q; rw [if_neg q] at c50; exact absurd rfl c50))]; exact hv))
          · skip
            refine r_iload dX8_picked_53 rfl ?_
            refine r_istore dX8_picked_55 (by decide) rfl ?_
            refine r_iinc dX8_picked_57 rfl rfl rfl ?_
            refine r_goto 6 dX8_picked_60 (by decide) ?_
            first
              | exact r_lv (lvSc rfl (lvSc rfl (lvSc rfl (lvSc rfl (lvSc rfl (lvSc rfl lvS0)))))) (ih (i + 1) _ _ (by omega) (by omega) (nI_inc hv) (by rw [pick_n (fun q => c23 ((hps i hi).trans q))]; exact hb))
              | exact r_lv (lvSc rfl (lvSc rfl (lvSc rfl (lvSc rfl (lvSc rfl (lvSc rfl lvS0)))))) (ih (i + 1) _ _ (by omega) (by omega) (nI_inc hv) (by rw [pick_s ((hps i hi).symm.trans c23) (Or.inl (hb.symm.trans c29))]; exact hv))
              | exact r_lv (lvSc rfl (lvSc rfl (lvSc rfl (lvSc rfl (lvSc rfl (lvSc rfl lvS0)))))) (ih (i + 1) _ _ (by omega) (by omega) (nI_inc hv) (by rw [pick_m (fun q => c29 (hb.trans q)) (fun q => by rw [ej, nI_clamp (by omega), ← (V.2.2.2 i hi).1, ← (V.2.2.2 j (by omega)).1] at q; rw [q] at c50; exact absurd c50 (by decide))]; exact hb))
              | exact r_lv (lvSc rfl (lvSc rfl (lvSc rfl (lvSc rfl (lvSc rfl (lvSc rfl lvS0)))))) (ih (i + 1) _ _ (by omega) (by omega) (nI_inc hv) (by rw [pick_s ((hps i hi).symm.trans c23) (Or.inr (by rw [ej, nI_clamp (by omega), ← (V.2.2.2 i hi).1, ← (V.2.2.2 j (by omega)).1]; by_cases q : likes (kiS (mT M a)) (mI M 9 i) (mI M 9 j) = true; exact q; rw [if_neg q] at c50; exact absurd rfl c50))]; exact hv))
set_option maxHeartbeats 4000000 in
set_option maxRecDepth 100000 in
theorem kX8_picked (g : Gx) (M : Mm) (c : Nat) (hc : isC c) (hs : St M) (σ : Ab) (w : Wf σ) (V : CV1 σ M) (a : Nat) (ha : a < mN M) (ht : isTh (mT M a)) (h : Int32) (ps : Rw) (hps : ∀ s, s < zS σ → mI M (c + 1) s = ps s) : Ct g yX8_picked cX8_picked 6 (Option.some FieldType.int) rmX8_picked [.ref (g.1 + 0), .ref (g.1 + c), .ref (g.1 + a), .int h] M (pI fun r M' => M' = M ∧ r = pickF (kiS (mT M a)) (zw σ) ps h (zS σ)) := by
  refine Ct.of rfl (Nat.le_of_ble_eq_true rfl) (fun x => ?_)
  refine r_iconst (v := -1) dX8_picked_0 (by decide) ?_
  refine r_istore dX8_picked_1 (by decide) rfl ?_
  refine r_iconst (v := 0) dX8_picked_3 (by decide) ?_
  refine r_istore dX8_picked_4 (by decide) rfl ?_
  exact r_lv (lvSc rfl (lvSc rfl (lvSc rfl (lvSc rfl (lvSc rfl (lvSc rfl lvS0)))))) (lp_picked g x M c hc hs σ w V a ha ht h ps hps (zS σ + 1) 0 0 (-1) (by omega) (by omega) rfl rfl)
end
section
theorem frF_1 {σ : Ab} {pd : Int32} {t : Nat} (h : b01 pd) : frF σ pd t = (if pd = 0 then zp σ t else zr σ t) := rfl
theorem toF_1 {σ : Ab} {pd : Int32} {t : Nat} (h : b01 pd) : toF σ pd t = (if (if pd = 0 then (1 : Int32) else 0) = 0 then zp σ t else zr σ t) := by
  unfold toF
  rcases h with e | e <;> rw [e] <;> rfl
theorem takeF_m1 {k : Nat} {wo : Rw} {S : Nat} {fr to : Int32} {n : Nat} {ps : Rw} (h : pickF k wo ps fr S = -1) : takeF k wo S fr to n ps = (0, ps) := by
  cases n with
  | zero => rfl
  | succ n => rw [takeF, if_pos h]
theorem takeF_s {k : Nat} {wo : Rw} {S : Nat} {fr to : Int32} {n j : Nat} {ps : Rw} (h : pickF k wo ps fr S = nI j) (hj : j < 2 ^ 31) : takeF k wo S fr to (n + 1) ps = ((takeF k wo S fr to n (va_up ps j to)).1 + 1, (takeF k wo S fr to n (va_up ps j to)).2) := by
  rw [takeF, if_neg (by rw [h]; exact nI_ne_m1 hj), h, nI_clamp hj]
theorem St.th {M : Mm} (hs : St M) {σ : Ab} (w : Wf σ) (V : CV1 σ M) {t : Nat} (ht : t < zN σ) : ∃ a, mR M 8 t = some a ∧ a < mN M ∧ isTh (mT M a) ∧ kiS (mT M a) = zk σ t ∧ mI M a 0 = zp σ t ∧ mI M a 1 = zr σ t ∧ mI M a 2 = zf σ t ∧ 36 ≤ a ∧ ¬ (44 ≤ a ∧ a < 59) := by
  obtain ⟨h1, h2, h3, h4, h5⟩ := hs.2.2.2 t (by have := w.1; omega)
  obtain ⟨v1, v2, v3, v4⟩ := V.2.2.1 t ht
  exact ⟨thi M t, h1, h4, h5, v1, v2, v3, v4, h2, h3⟩
def rmX8_visit : Room := { frames := 2, cells := 0, slots := 0, locals := 47 }
set_option maxHeartbeats 4000000 in
set_option maxRecDepth 100000 in
theorem lp_visit (g : Gx) (x : Cx) (M : Mm) (c : Nat) (hc : isC c) (hs : St M) (σ : Ab) (w : Wf σ) (V : CV1 σ M) (pd dg lo ps : Rw) (D : CD c M σ pd dg lo ps) (t : Nat) (htN : t < zN σ) (a : Nat) (ha : a < mN M) (hth : isTh (mT M a)) (ek : kiS (mT M a) = zk σ t) (fr to : Int32) (hno : visitF σ pd dg lo t ps = takeF (zk σ t) (zw σ) (zS σ) fr to (mostF (zk σ t)) ps) : ∀ (n : Nat) (i : Nat) (v tk : Int32) (M1 : Mm) (ps1 : Rw), i ≤ mostF (zk σ t) → mostF (zk σ t) - i < n → v = nI i → Fr [c + 1] [] M M1 → (∀ s, s < zS σ → mI M1 (c + 1) s = ps1 s) → (takeF (zk σ t) (zw σ) (zS σ) fr to (mostF (zk σ t) - i) ps1).1 + tk = (visitF σ pd dg lo t ps).1 → (takeF (zk σ t) (zw σ) (zS σ) fr to (mostF (zk σ t) - i) ps1).2 = (visitF σ pd dg lo t ps).2 → Vj x g yX8_visit cX8_visit 9 (Option.some FieldType.int) rmX8_visit (Qm x g rmX8_visit.cells rmX8_visit.slots (pI fun r M' => Fr [c + 1] [] M M' ∧ r = (visitF σ pd dg lo t ps).1 ∧ ∀ s, s < zS σ → mI M' (c + 1) s = (visitF σ pd dg lo t ps).2 s)) 0 0 M1 68 [(0, some (.ref (g.1 + 0))), (1, some (.ref (g.1 + c))), (3, some (.ref (g.1 + a))), (4, some (.int fr)), (5, some (.int to)), (6, some (.int tk)), (7, some (.int v))] [] := by
  intro n
  induction n with
  | zero => intro i v tk M1 ps1 him hn hv hF hp1 e1 e2; omega
  | succ n ih =>
    intro i v tk M1 ps1 him hn hv hF hp1 e1 e2
    have hs1 := hs.fr hF
    have V1 := V.fr hs w hF (ok1 hc)
    have ha1 : a < mN M1 := by rw [hF.1.1]; exact ha
    have ht1 : isTh (mT M1 a) := by rw [hF.1.2.1]; exact hth
    have hm2 : mostF (zk σ t) ≤ 2 := by unfold mostF; split <;> (try split) <;> omega
    refine r_iload dX8_visit_68 rfl ?_
    refine r_aload_n dX8_visit_70 rfl ?_
    refine r_v_mostTaken rfl ha1 ht1 ⟨Nat.le_of_ble_eq_true rfl, Nat.le_of_ble_eq_true rfl⟩ (Nat.le_of_ble_eq_true rfl) ⟨Nat.le_of_ble_eq_true rfl, Nat.le_of_ble_eq_true rfl⟩ dX8_visit_71 ?_
    rw [hF.1.2.1, ek]
    refine r_icmp_ge 114 dX8_visit_74 (by decide) (fun c74 => ?_) (fun c74 => ?_)
    · skip
      have e0 := lp_ge (n := mostF (zk σ t)) hv rfl c74 him (by have := hm2; omega)
      rw [e0, Nat.sub_self] at e1 e2
      have e1 : tk = (visitF σ pd dg lo t ps).1 := by rw [← e1]; exact (Int32.zero_add tk).symm
      have e2 : ps1 = (visitF σ pd dg lo t ps).2 := e2
      refine r_iload dX8_visit_114 rfl ?_
      exact r_iret dX8_visit_116 ⟨_, rfl, hF, e1, fun s hs => by rw [hp1 s hs, e2]⟩
    · skip
      have hi : i < mostF (zk σ t) := lp_lt (n := mostF (zk σ t)) hv rfl c74 him (by have := hm2; omega)
      obtain ⟨n2, en2⟩ : ∃ n2, mostF (zk σ t) - i = n2 + 1 := ⟨mostF (zk σ t) - i - 1, by omega⟩
      refine r_aload_n dX8_visit_77 rfl ?_
      refine r_aload_n dX8_visit_78 rfl ?_
      refine r_aload_n dX8_visit_79 rfl ?_
      refine r_iload dX8_visit_80 rfl ?_
      refine r_cV3i cvX8_297 (kX8_picked g M1 c hc hs1 σ w V1 a ha1 ht1 fr ps1 hp1) (hs1.lt (by decide)) (hs1.T 0 rfl) ⟨Nat.le_of_ble_eq_true rfl, Nat.le_of_ble_eq_true rfl⟩ (Nat.le_of_ble_eq_true rfl) ⟨Nat.le_of_ble_eq_true rfl, Nat.le_of_ble_eq_true rfl⟩ dX8_visit_82 (fun r82 M82 h82 => ?_)
      obtain ⟨e82, h82⟩ := h82
      subst e82
      rw [hF.1.2.1, ek] at h82
      refine r_istore dX8_visit_85 (by decide) rfl ?_
      refine r_iload dX8_visit_87 rfl ?_
      refine r_iconst (v := -1) dX8_visit_89 (by decide) ?_
      refine r_icmp_ne 96 dX8_visit_90 (by decide) (fun c90 => ?_) (fun c90 => ?_)
      · skip
        obtain ⟨j, hj, ej⟩ := (pickF_some (zS σ)).resolve_left (fun q => c90 (h82.trans q))
        have hj8 : j < 8 := Nat.lt_of_lt_of_le hj w.2.1
        rw [en2, takeF_s ej (by omega)] at e1 e2
        refine r_aload_n dX8_visit_96 rfl ?_
        refine r_getR flX8_166_1 rfl (hs1.cl0 hc) (hs1.cT hc) (hs1.cR0 hc) dX8_visit_97 ?_
        refine r_iload dX8_visit_100 rfl ?_
        refine r_iload dX8_visit_102 rfl ?_
        refine r_ias (hs1.cA0 hc) (hs1.cl hc 1 (by decide)) (ix_of (h82.trans ej) hj8 (by decide)) dX8_visit_104 ?_
        refine r_iinc dX8_visit_105 rfl rfl rfl ?_
        refine r_iinc dX8_visit_108 rfl rfl rfl ?_
        refine r_goto 68 dX8_visit_111 (by decide) ?_
        exact r_lv (lvSc rfl (lvSc rfl (lvSc rfl (lvSc rfl (lvSc rfl (lvSc rfl (lvSc rfl lvS0))))))) (ih (i + 1) _ _ _ (va_up ps1 j to) (by omega) (by omega) (nI_inc hv) (hF.sI (by simp)) (fun s hs => by
          rw [mI_sI, va_up_if, va_up_if]
          split
          · rfl
          · exact hp1 s hs) (by rw [show mostF (zk σ t) - (i + 1) = n2 by omega, ← e1]; show _ + (tk + 1) = _ + 1 + tk; grind) (by rw [show mostF (zk σ t) - (i + 1) = n2 by omega]; exact e2))
      · skip
        rw [takeF_m1 (h82.symm.trans c90)] at e1 e2
        have e1 : tk = (visitF σ pd dg lo t ps).1 := by rw [← e1]; exact (Int32.zero_add tk).symm
        have e2 : ps1 = (visitF σ pd dg lo t ps).2 := e2
        refine r_goto 114 dX8_visit_93 (by decide) ?_
        refine r_iload dX8_visit_114 rfl ?_
        exact r_iret dX8_visit_116 ⟨_, rfl, hF, e1, fun s hs => by rw [hp1 s hs, e2]⟩
set_option maxHeartbeats 4000000 in
set_option maxRecDepth 100000 in
theorem kX8_visit (g : Gx) (M : Mm) (c : Nat) (hc : isC c) (hs : St M) (σ : Ab) (w : Wf σ) (V : CV1 σ M) (pd dg lo ps : Rw) (D : CD c M σ pd dg lo ps) (t : Nat) (htN : t < zN σ) : Ct g yX8_visit cX8_visit 9 (Option.some FieldType.int) rmX8_visit [.ref (g.1 + 0), .ref (g.1 + c), .int (nI t)] M (pI fun r M' => Fr [c + 1] [] M M' ∧ r = (visitF σ pd dg lo t ps).1 ∧ ∀ s, s < zS σ → mI M' (c + 1) s = (visitF σ pd dg lo t ps).2 s) := by
  obtain ⟨a, eR, ha, ht, ek, ep, er, -, -, -⟩ := hs.th w V htN
  have ht8 : t < 8 := Nat.lt_of_lt_of_le htN w.1
  refine Ct.of rfl (Nat.le_of_ble_eq_true rfl) (fun x => ?_)
  refine r_aload_n dX8_visit_0 rfl ?_
  refine r_getR flX8_25_8 rfl (hs.lt (by decide)) (hs.T 0 rfl) (hs.R 0 2 rfl) dX8_visit_1 ?_
  refine r_iload_n dX8_visit_4 rfl ?_
  refine r_aal (hs.T 8 rfl) (hs.lt (by decide)) (ix_nI ht8 (by decide)) eR dX8_visit_5 ?_
  refine r_astore_n dX8_visit_6 (by decide) rfl ?_
  refine r_aload_n dX8_visit_7 rfl ?_
  refine r_aload_n dX8_visit_8 rfl ?_
  refine r_getR flX8_126_1 rfl (hs.cl0 hc) (hs.cT hc) (hs.cR4 hc) dX8_visit_9 ?_
  refine r_iload_n dX8_visit_12 rfl ?_
  refine r_zal (hs.cA4 hc) (hs.cl hc 5 (by decide)) (ix_nI ht8 (by decide)) dX8_visit_13 ?_
  refine r_v_robs rfl ha ht ⟨Nat.le_of_ble_eq_true rfl, Nat.le_of_ble_eq_true rfl⟩ (Nat.le_of_ble_eq_true rfl) ⟨Nat.le_of_ble_eq_true rfl, Nat.le_of_ble_eq_true rfl⟩ dX8_visit_14 ?_
  refine r_top (fun fr hfr => ?_)
  refine r_istore dX8_visit_17 (by decide) rfl ?_
  refine r_aload_n dX8_visit_19 rfl ?_
  refine r_dia (P := fun v => v = (if pd t = 0 then (1 : Int32) else 0)) 34 (fun np hnp => ?_) (fun hJ34 => ?_)
  · skip
    refine r_v_robs rfl ha ht ⟨Nat.le_of_ble_eq_true rfl, Nat.le_of_ble_eq_true rfl⟩ (Nat.le_of_ble_eq_true rfl) ⟨Nat.le_of_ble_eq_true rfl, Nat.le_of_ble_eq_true rfl⟩ dX8_visit_34 ?_
    refine r_top (fun to hto => ?_)
    refine r_istore dX8_visit_37 (by decide) rfl ?_
    have efr : fr = frF σ (pd t) t := by rw [hfr, (D.2.2.2 t htN).1, ep, er]; rfl
    have eto : to = toF σ (pd t) t := by rw [hto, hnp, ep, er, toF_1 (D.2.2.2 t htN).2]
    obtain ⟨j, hj, ej⟩ := frF_8 w htN (pd t)
    have ej2 := efr.trans ej
    refine r_aload_n dX8_visit_39 rfl ?_
    refine r_aload_n dX8_visit_40 rfl ?_
    refine r_getR flX8_163_1 rfl (hs.cl0 hc) (hs.cT hc) (hs.cR3 hc) dX8_visit_41 ?_
    refine r_iload dX8_visit_44 rfl ?_
    refine r_zal (hs.cA3 hc) (hs.cl hc 4 (by decide)) (ix_of ej2 hj (by decide)) dX8_visit_46 ?_
    refine r_aload_n dX8_visit_47 rfl ?_
    refine r_getR flX8_160_1 rfl (hs.cl0 hc) (hs.cT hc) (hs.cR2 hc) dX8_visit_48 ?_
    refine r_iload dX8_visit_51 rfl ?_
    refine r_ial (hs.cA2 hc) (hs.cl hc 3 (by decide)) (ix_of ej2 hj (by decide)) dX8_visit_53 ?_
    refine r_v_isKeptOut rfl ha ht (by rw [(D.2.2.1 j hj).1]; exact (D.2.2.1 j hj).2) ⟨Nat.le_of_ble_eq_true rfl, Nat.le_of_ble_eq_true rfl⟩ (Nat.le_of_ble_eq_true rfl) ⟨Nat.le_of_ble_eq_true rfl, Nat.le_of_ble_eq_true rfl⟩ dX8_visit_54 (fun r54 h54 => ?_)
    rw [(D.2.2.1 j hj).1, D.2.1 j hj, ek, show dg j = dg (frF σ (pd t) t).toNatClampNeg by rw [ej, nI_clamp (by omega)], show lo j = lo (frF σ (pd t) t).toNatClampNeg by rw [ej, nI_clamp (by omega)]] at h54
    refine r_if_eq 62 dX8_visit_57 (by decide) (fun c57 => ?_) (fun c57 => ?_)
    · skip
      have hno := (h54.resolve_left (fun q => absurd (q.1.symm.trans c57) (by decide))).2
      refine r_iconst (v := 0) dX8_visit_62 (by decide) ?_
      refine r_istore dX8_visit_63 (by decide) rfl ?_
      refine r_iconst (v := 0) dX8_visit_65 (by decide) ?_
      refine r_istore dX8_visit_66 (by decide) rfl ?_
      exact r_lv (lvSc rfl (lvSc rfl (lvSc rfl (lvSc rfl (lvSc rfl (lvSc rfl (lvSc rfl lvS0))))))) (lp_visit g x M c hc hs σ w V pd dg lo ps D t htN a ha ht ek fr to (by rw [visitF_0 hno, efr, eto]) (mostF (zk σ t) + 1) 0 0 0 M ps (by omega) (by omega) rfl (Fr.rf _ _ _) D.1 (by rw [visitF_0 hno, efr, eto]; exact Int32.add_zero _) (by rw [visitF_0 hno, efr, eto]; rfl))
    · skip
      have hin := (h54.resolve_right (fun q => c57 q.1)).2
      refine r_iconst (v := 0) dX8_visit_60 (by decide) ?_
      exact r_iret dX8_visit_61 ⟨_, rfl, Fr.rf _ _ _, by rw [visitF_1 hin], fun s hs => by rw [visitF_1 hin]; exact D.1 s hs⟩
  · skip
    refine r_aload_n dX8_visit_20 rfl ?_
    refine r_getR flX8_126_1 rfl (hs.cl0 hc) (hs.cT hc) (hs.cR4 hc) dX8_visit_21 ?_
    refine r_iload_n dX8_visit_24 rfl ?_
    refine r_zal (hs.cA4 hc) (hs.cl hc 5 (by decide)) (ix_nI ht8 (by decide)) dX8_visit_25 ?_
    refine r_if_ne 33 dX8_visit_26 (by decide) (fun c26 => ?_) (fun c26 => ?_)
    · skip
      refine r_iconst (v := 0) dX8_visit_33 (by decide) ?_
      exact hJ34 _ (by rw [(D.2.2.2 t htN).1] at c26; simp [c26])
    · skip
      refine r_iconst (v := 1) dX8_visit_29 (by decide) ?_
      refine r_goto 34 dX8_visit_30 (by decide) ?_
      exact hJ34 _ (by rw [(D.2.2.2 t htN).1] at c26; simp [c26])
def rmX8_monthWithout : Room := { frames := 3, cells := 0, slots := 0, locals := 75 }
set_option maxHeartbeats 4000000 in
set_option maxRecDepth 100000 in
theorem lp_monthW (g : Gx) (x : Cx) (M : Mm) (c : Nat) (hc : isC c) (hs : St M) (σ : Ab) (w : Wf σ) (V : CV1 σ M) (pd dg lo ps : Rw) (D : CD c M σ pd dg lo ps) (hlo : ∀ h, h < 8 → 0 ≤ lo h) (ab : Int32) : ∀ (n : Nat) (i : Nat) (v tk : Int32) (M1 : Mm), i ≤ zN σ → zN σ - i < n → v = nI i → Fr [c + 1] [] M M1 → tk = (passF σ pd dg lo (fun t => ¬ nI t = ab) ps i).1 → CD c M1 σ pd dg lo (passF σ pd dg lo (fun t => ¬ nI t = ab) ps i).2 → Vj x g yX8_monthWithout cX8_monthWithout 5 (Option.some FieldType.int) rmX8_monthWithout (Qm x g rmX8_monthWithout.cells rmX8_monthWithout.slots (pI fun r M' => Fr [c + 1, c + 3] [] M M' ∧ r = (passF σ pd dg lo (fun t => ¬ nI t = ab) ps (zN σ)).1 ∧ CD c M' σ pd dg (lapF lo) (passF σ pd dg lo (fun t => ¬ nI t = ab) ps (zN σ)).2)) 0 0 M1 5 [(0, some (.ref (g.1 + 0))), (1, some (.ref (g.1 + c))), (2, some (.int ab)), (3, some (.int tk)), (4, some (.int v))] [] := by
  intro n
  induction n with
  | zero => intro i v tk M1 hiN hn hv hF etk D1; omega
  | succ n ih =>
    intro i v tk M1 hiN hn hv hF etk D1
    have hs1 := hs.fr hF
    have V1 := V.fr hs w hF (ok1 hc)
    subst hv
    have hv : nI i = nI i := rfl
    refine r_iload dX8_monthWithout_5 rfl ?_
    refine r_aload_n dX8_monthWithout_7 rfl ?_
    refine r_getI flX8_62_8 rfl (hs1.lt (by decide)) (hs1.T 0 rfl) dX8_monthWithout_8 ?_
    refine r_icmp_ge 40 dX8_monthWithout_11 (by decide) (fun c11 => ?_) (fun c11 => ?_)
    · skip
      have e0 := lp_ge (n := zN σ) hv V1.1 c11 hiN (by have := w.1; omega)
      subst e0
      refine r_aload_n dX8_monthWithout_40 rfl ?_
      refine r_cV0v cvX8_241 (kX1_lapseLocks g M1 c hc hs1 lo D1.2.1 hlo) (hs1.cl0 hc) (hs1.cT hc) ⟨Nat.le_of_ble_eq_true rfl, Nat.le_of_ble_eq_true rfl⟩ (Nat.le_of_ble_eq_true rfl) ⟨Nat.le_of_ble_eq_true rfl, Nat.le_of_ble_eq_true rfl⟩ dX8_monthWithout_41 (fun M41 h41 => ?_)
      refine r_iload_n dX8_monthWithout_44 rfl ?_
      exact r_iret dX8_monthWithout_45 ⟨_, rfl, (hF.mono (by simp) (by simp)).tr (h41.1.mono (by simp) (by simp)), etk, D1.fr3 h41.1 h41.2⟩
    · skip
      have hi : i < zN σ := lp_lt (n := zN σ) hv V1.1 c11 hiN (by have := w.1; omega)
      refine r_iload_n dX8_monthWithout_14 rfl ?_
      refine r_iload dX8_monthWithout_15 rfl ?_
      refine r_iload_n dX8_monthWithout_17 rfl ?_
      refine r_icmp_eq 31 dX8_monthWithout_18 (by decide) (fun c18 => ?_) (fun c18 => ?_)
      · skip
        refine r_iconst (v := 0) dX8_monthWithout_31 (by decide) ?_
        refine r_iadd dX8_monthWithout_32 ?_
        refine r_istore_n dX8_monthWithout_33 (by decide) rfl ?_
        refine r_iinc dX8_monthWithout_34 rfl rfl rfl ?_
        refine r_goto 5 dX8_monthWithout_37 (by decide) ?_
        first
          | exact r_lv (lvSc rfl (lvSc rfl (lvSc rfl (lvSc rfl (lvSc rfl lvS0))))) (ih (i + 1) _ _ _ (by omega) (by omega) (nI_inc rfl) hF (by rw [passF_s0 (fun q => q c18), ← etk]; exact Int32.add_zero _) (by rw [passF_s0 (fun q => q c18)]; exact D1))
          | exact r_lv (lvSc rfl (lvSc rfl (lvSc rfl (lvSc rfl (lvSc rfl lvS0))))) (ih (i + 1) _ _ _ (by omega) (by omega) (nI_inc rfl) (hF.tr hF2) (by rw [passF_s1 c18, etk, e2]) (by rw [passF_s1 c18]; exact D1.fr1 hF2 e3))
      · skip
        refine r_aload_n dX8_monthWithout_21 rfl ?_
        refine r_aload_n dX8_monthWithout_22 rfl ?_
        refine r_iload dX8_monthWithout_23 rfl ?_
        refine r_cV2i cvX8_238 (kX8_visit g M1 c hc hs1 σ w V1 pd dg lo _ D1 i hi) (hs1.lt (by decide)) (hs1.T 0 rfl) ⟨Nat.le_of_ble_eq_true rfl, Nat.le_of_ble_eq_true rfl⟩ (Nat.le_of_ble_eq_true rfl) ⟨Nat.le_of_ble_eq_true rfl, Nat.le_of_ble_eq_true rfl⟩ dX8_monthWithout_25 (fun r25 M25 h25 => ?_)
        obtain ⟨hF2, e2, e3⟩ := h25
        refine r_goto 32 dX8_monthWithout_28 (by decide) ?_
        refine r_iadd dX8_monthWithout_32 ?_
        refine r_istore_n dX8_monthWithout_33 (by decide) rfl ?_
        refine r_iinc dX8_monthWithout_34 rfl rfl rfl ?_
        refine r_goto 5 dX8_monthWithout_37 (by decide) ?_
        first
          | exact r_lv (lvSc rfl (lvSc rfl (lvSc rfl (lvSc rfl (lvSc rfl lvS0))))) (ih (i + 1) _ _ _ (by omega) (by omega) (nI_inc rfl) hF (by rw [passF_s0 (fun q => q c18), ← etk]; exact Int32.add_zero _) (by rw [passF_s0 (fun q => q c18)]; exact D1))
          | exact r_lv (lvSc rfl (lvSc rfl (lvSc rfl (lvSc rfl (lvSc rfl lvS0))))) (ih (i + 1) _ _ _ (by omega) (by omega) (nI_inc rfl) (hF.tr hF2) (by rw [passF_s1 c18, etk, e2]) (by rw [passF_s1 c18]; exact D1.fr1 hF2 e3))
set_option maxHeartbeats 4000000 in
set_option maxRecDepth 100000 in
theorem kX8_monthWithout (g : Gx) (M : Mm) (c : Nat) (hc : isC c) (hs : St M) (σ : Ab) (w : Wf σ) (V : CV1 σ M) (pd dg lo ps : Rw) (D : CD c M σ pd dg lo ps) (hlo : ∀ h, h < 8 → 0 ≤ lo h) (ab : Int32) : Ct g yX8_monthWithout cX8_monthWithout 5 (Option.some FieldType.int) rmX8_monthWithout [.ref (g.1 + 0), .ref (g.1 + c), .int ab] M (pI fun r M' => Fr [c + 1, c + 3] [] M M' ∧ r = (passF σ pd dg lo (fun t => ¬ nI t = ab) ps (zN σ)).1 ∧ CD c M' σ pd dg (lapF lo) (passF σ pd dg lo (fun t => ¬ nI t = ab) ps (zN σ)).2) := by
  refine Ct.of rfl (Nat.le_of_ble_eq_true rfl) (fun x => ?_)
  refine r_iconst (v := 0) dX8_monthWithout_0 (by decide) ?_
  refine r_istore_n dX8_monthWithout_1 (by decide) rfl ?_
  refine r_iconst (v := 0) dX8_monthWithout_2 (by decide) ?_
  refine r_istore dX8_monthWithout_3 (by decide) rfl ?_
  exact r_lv (lvSc rfl (lvSc rfl (lvSc rfl (lvSc rfl (lvSc rfl lvS0))))) (lp_monthW g x M c hc hs σ w V pd dg lo ps D hlo ab (zN σ + 1) 0 0 0 M (by omega) (by omega) rfl (Fr.rf _ _ _) rfl D)
end
section
/-! what an image keeps: where spoons are, where they were seen, locks, dogs, who is paid, tenths, months, fees -/
abbrev Dy : Type := Rw × Rw × Rw × Rw × Rw × Rw × Int32 × Int32
def yp (δ : Dy) : Rw := δ.1
def ye (δ : Dy) : Rw := δ.2.1
def yl (δ : Dy) : Rw := δ.2.2.1
def yd (δ : Dy) : Rw := δ.2.2.2.1
def yq (δ : Dy) : Rw := δ.2.2.2.2.1
def yt (δ : Dy) : Rw := δ.2.2.2.2.2.1
def ym (δ : Dy) : Int32 := δ.2.2.2.2.2.2.1
def yf (δ : Dy) : Int32 := δ.2.2.2.2.2.2.2
def dyP (δ : Dy) (f : Rw) : Dy := (f, ye δ, yl δ, yd δ, yq δ, yt δ, ym δ, yf δ)
def dyE (δ : Dy) (f : Rw) : Dy := (yp δ, f, yl δ, yd δ, yq δ, yt δ, ym δ, yf δ)
def dyL (δ : Dy) (f : Rw) : Dy := (yp δ, ye δ, f, yd δ, yq δ, yt δ, ym δ, yf δ)
def dyD (δ : Dy) (f : Rw) : Dy := (yp δ, ye δ, yl δ, f, yq δ, yt δ, ym δ, yf δ)
def dyQ (δ : Dy) (f : Rw) : Dy := (yp δ, ye δ, yl δ, yd δ, f, yt δ, ym δ, yf δ)
def dyT (δ : Dy) (f : Rw) : Dy := (yp δ, ye δ, yl δ, yd δ, yq δ, f, ym δ, yf δ)
/-- what holds of it -/
def DW (σ : Ab) (δ : Dy) : Prop := (∀ h, h < 8 → 0 ≤ yl δ h) ∧ (∀ s, s < zS σ → hs8 (yp δ s)) ∧ (∀ h, h < 8 → b01 (yd δ h)) ∧ (∀ t, t < zN σ → b01 (yq δ t))
/-- the component's city c holds it -/
def CC (c : Nat) (M : Mm) (σ : Ab) (δ : Dy) : Prop := CD c M σ (yq δ) (yd δ) (yl δ) (yp δ) ∧ (∀ s, s < zS σ → mI M (c + 2) s = ye δ s) ∧ (∀ t, t < zN σ → mI M (c + 6) t = yt δ t) ∧ mI M c 6 = ym δ ∧ mI M c 7 = yf δ ∧ ∀ j, j < 8 → b01 (mI M (c + 4) j) ∧ b01 (mI M (c + 5) j)
/-- the component holds this city -/
def CA (σ : Ab) (δ : Dy) (M : Mm) : Prop := St M ∧ Wf σ ∧ DW σ δ ∧ CV1 σ M ∧ CC 11 M σ δ
/-- the reference holds this city -/
def RA (σ : Ab) (δ : Dy) (M : Mm) : Prop := St M ∧ Wf σ ∧ DW σ δ ∧ RV1 σ M ∧ (∀ s, s < zS σ → mI M 50 (4 * s + 2) = yp δ s ∧ mI M 50 (4 * s + 3) = ye δ s) ∧ (∀ h, h < 8 → mI M 49 h = yl δ h) ∧ (∀ h, h < 8 → mI M 44 13 >>> (nI h &&& 31) &&& 1 = yd δ h) ∧ (∀ t, t < zN σ → mI M 44 8 >>> (nI t &&& 31) &&& 1 = yq δ t) ∧ (∀ t, t < zN σ → mI M 48 t = yt δ t) ∧ mI M 44 11 = ym δ ∧ mI M 44 12 = yf δ
def okK (a : Nat) : Prop := a ≠ 0 ∧ ¬ (9 ≤ a ∧ a ≤ 17) ∧ (a < 36 ∨ (44 ≤ a ∧ a < 59))
theorem CA.fr {σ : Ab} {δ : Dy} {M M' : Mm} {is ls : List Nat} (h : CA σ δ M) (f : Fr is ls M M') (hi : ∀ a ∈ is, okK a) : CA σ δ M' := by
  obtain ⟨h1, h2, h3, h4, h5, h6, h7, h8, h9, h10⟩ := h
  have nn : ∀ a, 11 ≤ a → a ≤ 17 → a ∉ is := fun a u v q => (hi a q).2.1 ⟨by omega, v⟩
  refine ⟨h1.fr f, h2, h3, h4.fr h1 h2 f (fun a q => ⟨(hi a q).1, fun e => (hi a q).2.1 (by omega), fun e => (hi a q).2.1 (by omega), (hi a q).2.2⟩), ⟨?_, ?_, ?_, ?_⟩, ?_, ?_, ?_, ?_, ?_⟩
  · intro s hs; rw [f.2.1 _ (nn _ (by omega) (by omega))]; exact h5.1 s hs
  · intro s hs; rw [f.2.1 _ (nn _ (by omega) (by omega))]; exact h5.2.1 s hs
  · intro s hs; rw [f.2.1 _ (nn _ (by omega) (by omega))]; exact h5.2.2.1 s hs
  · intro s hs; rw [f.2.1 _ (nn _ (by omega) (by omega))]; exact h5.2.2.2 s hs
  · intro s hs; rw [f.2.1 _ (nn _ (by omega) (by omega))]; exact h6 s hs
  · intro s hs; rw [f.2.1 _ (nn _ (by omega) (by omega))]; exact h7 s hs
  · rw [f.2.1 _ (nn _ (by omega) (by omega))]; exact h8
  · rw [f.2.1 _ (nn _ (by omega) (by omega))]; exact h9
  · intro s hs; rw [f.2.1 _ (nn _ (by omega) (by omega)), f.2.1 _ (nn _ (by omega) (by omega))]; exact h10 s hs
theorem CC.copy {c d : Nat} {M M' : Mm} {σ : Ab} {δ : Dy} (w : Wf σ) (h : CC d M σ δ) (hc : ∀ k, 1 ≤ k → k ≤ 6 → cpR c d k M M' 8) (h6 : mI M' c 6 = mI M d 6) (h7 : mI M' c 7 = mI M d 7) : CC c M' σ δ := by
  obtain ⟨⟨a1, a2, a3, a4⟩, a5, a6, a7, a8, a9⟩ := h
  have w1 := w.1
  have w2 := w.2.1
  refine ⟨⟨fun s hs => ?_, fun s hs => ?_, fun s hs => ?_, fun s hs => ?_⟩, fun s hs => ?_, fun s hs => ?_, h6.trans a7, h7.trans a8, fun s hs => ?_⟩
  · rw [hc 1 (by decide) (by decide) s (by omega)]; exact a1 s hs
  · rw [hc 3 (by decide) (by decide) s (by omega)]; exact a2 s hs
  · rw [hc 4 (by decide) (by decide) s (by omega)]; exact a3 s hs
  · rw [hc 5 (by decide) (by decide) s (by omega)]; exact a4 s hs
  · rw [hc 2 (by decide) (by decide) s (by omega)]; exact a5 s hs
  · rw [hc 6 (by decide) (by decide) s (by omega)]; exact a6 s hs
  · rw [hc 4 (by decide) (by decide) s (by omega), hc 5 (by decide) (by decide) s (by omega)]; exact a9 s hs
/-! sums, months in a row -/
def sumF (f : Nat → Int32) : Nat → Int32
  | 0 => 0
  | n + 1 => sumF f n + f n
theorem sumF_congr {f h : Nat → Int32} : ∀ {n : Nat}, (∀ i, i < n → f i = h i) → sumF f n = sumF h n
  | 0, _ => rfl
  | n + 1, e => by rw [sumF, sumF, sumF_congr (fun i hi => e i (by omega)), e n (by omega)]
theorem passF_congr {σ : Ab} {pd dg lo : Rw} {cm cn : Nat → Prop} {ps : Rw} : ∀ {n : Nat}, (∀ t, t < n → (cm t ↔ cn t)) → passF σ pd dg lo cm ps n = passF σ pd dg lo cn ps n
  | 0, _ => rfl
  | n + 1, e => by
    have ih := passF_congr (σ := σ) (pd := pd) (dg := dg) (lo := lo) (ps := ps) (n := n) (fun t ht => e t (by omega))
    by_cases h : cm n
    · rw [passF_s1 h, passF_s1 ((e n (by omega)).mp h), ih]
    · rw [passF_s0 h, passF_s0 (fun q => h ((e n (by omega)).mpr q)), ih]
def allT : Nat → Prop := fun _ => True
theorem pass_all {σ : Ab} {pd dg lo : Rw} {ps : Rw} (w : Wf σ) : passF σ pd dg lo (fun t => ¬ nI t = -1) ps (zN σ) = passF σ pd dg lo allT ps (zN σ) := passF_congr (fun t ht => ⟨fun _ => trivial, fun _ => nI_ne_m1 (by have := w.1; omega)⟩)
noncomputable def itF (σ : Ab) (pd dg : Rw) : Nat → Rw → Rw → Rw × Rw
  | 0, ps, lo => (ps, lo)
  | n + 1, ps, lo => itF σ pd dg n (passF σ pd dg lo allT ps (zN σ)).2 (lapF lo)
theorem lapF_0 {lo : Rw} (h : ∀ j, j < 8 → 0 ≤ lo j) : ∀ j, j < 8 → 0 ≤ lapF lo j := by
  intro j hj
  have := h j hj
  simp only [lapF, hj, if_true]
  split
  · grind
  · decide
noncomputable def stF (σ : Ab) (pd dg : Rw) : Nat → Nat → Rw → Rw → Int32
  | 0, _, _, _ => -1
  | n + 1, k, ps, lo => by
    classical exact if (passF σ pd dg lo allT ps (zN σ)).1 = 0 then nI k else stF σ pd dg n (k + 1) (passF σ pd dg lo allT ps (zN σ)).2 (lapF lo)
theorem stF_1 {σ : Ab} {pd dg : Rw} {n k : Nat} {ps lo : Rw} (h : (passF σ pd dg lo allT ps (zN σ)).1 = 0) : stF σ pd dg (n + 1) k ps lo = nI k := by
  rw [stF]; exact if_pos h
theorem stF_0 {σ : Ab} {pd dg : Rw} {n k : Nat} {ps lo : Rw} (h : ¬ (passF σ pd dg lo allT ps (zN σ)).1 = 0) : stF σ pd dg (n + 1) k ps lo = stF σ pd dg n (k + 1) (passF σ pd dg lo allT ps (zN σ)).2 (lapF lo) := by
  rw [stF]; exact if_neg h
def thB (σ : Ab) (t : Int32) : Prop := 0 ≤ t ∧ t < nI (zN σ)
def spB (σ : Ab) (s : Int32) : Prop := 0 ≤ s ∧ s < nI (zS σ)
def hoB (h : Int32) : Prop := 0 ≤ h ∧ h < 8
theorem thB_ex {σ : Ab} (w : Wf σ) {t : Int32} (h : thB σ t) : ∃ j, j < zN σ ∧ t = nI j := ix_ex (by have := w.1; omega) h.1 h.2
theorem spB_ex {σ : Ab} (w : Wf σ) {t : Int32} (h : spB σ t) : ∃ j, j < zS σ ∧ t = nI j := ix_ex (by have := w.2.1; omega) h.1 h.2
theorem hoB_ex {t : Int32} (h : hoB t) : ∃ j, j < 8 ∧ t = nI j := ix_ex (n := 8) (by decide) h.1 h.2
theorem thB_in {σ : Ab} (w : Wf σ) {j : Nat} (h : j < zN σ) : thB σ (nI j) := by
  have := w.1
  exact ⟨nI_pos' (by omega), nI_lt h (by omega)⟩
theorem spB_in {σ : Ab} (w : Wf σ) {j : Nat} (h : j < zS σ) : spB σ (nI j) := by
  have := w.2.1
  exact ⟨nI_pos' (by omega), nI_lt h (by omega)⟩
theorem hoB_in {j : Nat} (h : j < 8) : hoB (nI j) := ⟨nI_pos' (by omega), nI_lt (b := 8) h (by decide)⟩
end
section
/-! what the calls answer, and what becomes of the city, in numbers alone -/
theorem one_of {r : Int32} {p : Prop} [Decidable p] (h : r = if p then 1 else 0) (c : ¬ r = 0) : p := by
  by_cases hp : p
  · exact hp
  · rw [if_neg hp] at h; exact absurd h c
theorem zero_of {r : Int32} {p : Prop} [Decidable p] (h : r = if p then 1 else 0) (c : r = 0) : ¬ p := by
  intro hp
  rw [if_pos hp, c] at h
  exact absurd h (by decide)
def aboutR (σ : Ab) (δ : Dy) (t w : Int32) : Int32 := if 0 ≤ t ∧ t < nI (zN σ) then (if w = 0 then nI (zk σ t.toNatClampNeg) else if w = 1 then zp σ t.toNatClampNeg else if w = 2 then zr σ t.toNatClampNeg else if w = 3 then zf σ t.toNatClampNeg else if w = 4 then yq δ t.toNatClampNeg else if w = 5 then yt δ t.toNatClampNeg else -102) else -101
def asR (σ : Ab) (t k : Int32) : Int32 := if 0 ≤ t ∧ t < nI (zN σ) then (if 0 ≤ k ∧ k ≤ 4 then (if k = 0 ∨ k = nI (zk σ t.toNatClampNeg) ∨ (k = 1 ∧ zk σ t.toNatClampNeg = 4) then t else -1) else -102) else -101
def paidR (σ : Ab) (δ : Dy) (t : Int32) : Int32 := if 0 ≤ t ∧ t < nI (zN σ) then yq δ t.toNatClampNeg else -101
def paidD (σ : Ab) (δ : Dy) (t b : Int32) : Dy := if 0 ≤ t ∧ t < nI (zN σ) then dyQ δ (va_up (yq δ) t.toNatClampNeg b) else δ
def tenR (σ : Ab) (δ : Dy) (t v : Int32) : Int32 := if 0 ≤ t ∧ t < nI (zN σ) then (if 0 ≤ v ∧ v ≤ 10 then yt δ t.toNatClampNeg else -102) else -101
def tenD (σ : Ab) (δ : Dy) (t v : Int32) : Dy := if (0 ≤ t ∧ t < nI (zN σ)) ∧ 0 ≤ v ∧ v ≤ 10 then dyT δ (va_up (yt δ) t.toNatClampNeg v) else δ
def lockR (δ : Dy) (h v : Int32) : Int32 := if 0 ≤ h ∧ h < 8 then (if 0 ≤ v ∧ v ≤ 9 then yl δ h.toNatClampNeg else -102) else -101
def lockD (δ : Dy) (h v : Int32) : Dy := if (0 ≤ h ∧ h < 8) ∧ 0 ≤ v ∧ v ≤ 9 then dyL δ (va_up (yl δ) h.toNatClampNeg v) else δ
def dogR (δ : Dy) (h : Int32) : Int32 := if 0 ≤ h ∧ h < 8 then yd δ h.toNatClampNeg else -101
def dogD (δ : Dy) (h b : Int32) : Dy := if 0 ≤ h ∧ h < 8 then dyD δ (va_up (yd δ) h.toNatClampNeg b) else δ
def spoB (σ : Ab) (h v : Int32) : Prop := (0 ≤ h ∧ h < 8) ∧ (1 ≤ v ∧ v ≤ 99) ∧ zS σ < 8
def spoR (σ : Ab) (h v : Int32) : Int32 := if 0 ≤ h ∧ h < 8 then (if 1 ≤ v ∧ v ≤ 99 then (if zS σ < 8 then nI (zS σ) else -104) else -102) else -101
def spoS (σ : Ab) (h v : Int32) : Ab := if (0 ≤ h ∧ h < 8) ∧ (1 ≤ v ∧ v ≤ 99) ∧ zS σ < 8 then (zN σ, zS σ + 1, zk σ, zp σ, zr σ, zf σ, va_up (zw σ) (zS σ) v, va_up (zo σ) (zS σ) h) else σ
def spoD (σ : Ab) (δ : Dy) (h v : Int32) : Dy := if (0 ≤ h ∧ h < 8) ∧ (1 ≤ v ∧ v ≤ 99) ∧ zS σ < 8 then (va_up (yp δ) (zS σ) h, va_up (ye δ) (zS σ) (-1), yl δ, yd δ, yq δ, yt δ, ym δ, yf δ) else δ
def silR (σ : Ab) (δ : Dy) (s w : Int32) : Int32 := if 0 ≤ s ∧ s < nI (zS σ) then (if w = 0 then zw σ s.toNatClampNeg else if w = 1 then zo σ s.toNatClampNeg else if w = 2 then yp δ s.toNatClampNeg else if w = 3 then ye δ s.toNatClampNeg else -102) else -101
def inH (σ : Ab) (ps : Rw) (h : Int32) : Int32 := sumF (fun s => if ps s = h then zw σ s else 0) (zS σ)
def worR (σ : Ab) (δ : Dy) (h : Int32) : Int32 := if 0 ≤ h ∧ h < 8 then inH σ (yp δ) h else -101
def homF (σ : Ab) (ps : Rw) : Int32 := sumF (fun s => if ps s = zo σ s then zw σ s else 0) (zS σ)
def awaF (σ : Ab) (ps : Rw) : Int32 := sumF (fun s => if ps s = zo σ s then 0 else 1) (zS σ)
def oweR (σ : Ab) (δ : Dy) (a b : Int32) : Int32 := if (0 ≤ a ∧ a < 8) ∧ (0 ≤ b ∧ b < 8) ∧ ¬ a = b then sumF (fun s => if yp δ s = a ∧ zo σ s = b then zw σ s else 0) (zS σ) else -101
def seeR (σ : Ab) (δ : Dy) (s h : Int32) : Int32 := if (0 ≤ s ∧ s < nI (zS σ)) ∧ (h = -1 ∨ (0 ≤ h ∧ h < 8)) then ye δ s.toNatClampNeg else -101
def seeD (σ : Ab) (δ : Dy) (s h : Int32) : Dy := if (0 ≤ s ∧ s < nI (zS σ)) ∧ (h = -1 ∨ (0 ≤ h ∧ h < 8)) then dyE δ (va_up (ye δ) s.toNatClampNeg h) else δ
noncomputable def wheR (σ : Ab) (δ : Dy) (s m : Int32) : Int32 := if 0 ≤ s ∧ s < nI (zS σ) then (if 0 ≤ m ∧ m ≤ 60 then (if zN σ = 0 then -103 else (itF σ (yq δ) (yd δ) m.toNatClampNeg (yp δ) (yl δ)).1 s.toNatClampNeg) else -102) else -101
noncomputable def stiR (σ : Ab) (δ : Dy) : Int32 := if zN σ = 0 then -103 else stF σ (yq δ) (yd δ) 61 0 (yp δ) (yl δ)
theorem nI_zero {n : Nat} (h : n ≤ 8) : nI n = 0 ↔ n = 0 := by
  constructor
  · intro e
    exact (nI_eq (a := n) (b := 0) (by omega) (by decide)).mp e
  · intro e; rw [e]; rfl
/-! the city with one row changed, in the component's cells -/
theorem CC.keep {c : Nat} {M M' : Mm} {σ : Ab} {δ : Dy} (h : CC c M σ δ) (e : ∀ k, k ≤ 6 → mI M' (c + k) = mI M (c + k)) : CC c M' σ δ := by
  obtain ⟨⟨a1, a2, a3, a4⟩, a5, a6, a7, a8, a9⟩ := h
  have e0 : mI M' c = mI M c := e 0 (by decide)
  have e1 := e 1 (by decide); have e2 := e 2 (by decide); have e3 := e 3 (by decide); have e4 := e 4 (by decide); have e5 := e 5 (by decide); have e6 := e 6 (by decide)
  unfold CC CD
  rw [e0, e1, e2, e3, e4, e5, e6]
  exact ⟨⟨a1, a2, a3, a4⟩, a5, a6, a7, a8, a9⟩
theorem CV1.st {σ : Ab} {M : Mm} (h : CV1 σ M) (hs : St M) (w : Wf σ) {a k : Nat} {v : Int32} (hi : a ≠ 0 ∧ a ≠ 9 ∧ a ≠ 10 ∧ (a < 36 ∨ (44 ≤ a ∧ a < 59))) : CV1 σ (sI M a k v) :=
  h.fr hs w ((Fr.rf [a] [] M).sI (by simp)) (by intro b hb; simp at hb; rw [hb]; exact hi)
theorem CA.stP {σ : Ab} {δ : Dy} {M : Mm} (h : CA σ δ M) {j : Nat} (hj : j < zN σ) {b : Int32} (hb : b01 b) : CA σ (dyQ δ (va_up (yq δ) j b)) (sI M 16 j b) := by
  obtain ⟨h1, h2, ⟨d1, d2, d3, d4⟩, h4, ⟨⟨a1, a2, a3, a4⟩, a5, a6, a7, a8, a9⟩⟩ := h
  refine ⟨h1, h2, ⟨d1, d2, d3, fun t ht => ?_⟩, h4.st h1 h2 (by decide), ⟨a1, a2, a3, fun t ht => ?_⟩, a5, a6, a7, a8, fun t ht => ?_⟩
  · show b01 (va_up (yq δ) j b t)
    rw [va_up_if]; split
    · exact hb
    · exact d4 t ht
  · show mI (sI M 16 j b) 16 t = va_up (yq δ) j b t ∧ (va_up (yq δ) j b t = 0 ∨ va_up (yq δ) j b t = 1)
    rw [mI_sI, va_up_if, va_up_if]; split
    · exact ⟨rfl, hb⟩
    · exact a4 t ht
  · show b01 (mI M 15 t) ∧ b01 (mI (sI M 16 j b) 16 t)
    rw [mI_sI, va_up_if]; split
    · exact ⟨(a9 t ht).1, hb⟩
    · exact a9 t ht
theorem CA.stT {σ : Ab} {δ : Dy} {M : Mm} (h : CA σ δ M) {j : Nat} {b : Int32} : CA σ (dyT δ (va_up (yt δ) j b)) (sI M 17 j b) := by
  obtain ⟨h1, h2, h3, h4, ⟨⟨a1, a2, a3, a4⟩, a5, a6, a7, a8, a9⟩⟩ := h
  refine ⟨h1, h2, h3, h4.st h1 h2 (by decide), ⟨a1, a2, a3, a4⟩, a5, fun t ht => ?_, a7, a8, a9⟩
  show mI (sI M 17 j b) 17 t = va_up (yt δ) j b t
  rw [mI_sI, va_up_if, va_up_if]; split
  · rfl
  · exact a6 t ht
theorem CA.stL {σ : Ab} {δ : Dy} {M : Mm} (h : CA σ δ M) {j : Nat} {b : Int32} (hb : 0 ≤ b) : CA σ (dyL δ (va_up (yl δ) j b)) (sI M 14 j b) := by
  obtain ⟨h1, h2, ⟨d1, d2, d3, d4⟩, h4, ⟨⟨a1, a2, a3, a4⟩, a5, a6, a7, a8, a9⟩⟩ := h
  refine ⟨h1, h2, ⟨fun t ht => ?_, d2, d3, d4⟩, h4.st h1 h2 (by decide), ⟨a1, fun t ht => ?_, a3, a4⟩, a5, a6, a7, a8, a9⟩
  · show 0 ≤ va_up (yl δ) j b t
    rw [va_up_if]; split
    · exact hb
    · exact d1 t ht
  · show mI (sI M 14 j b) 14 t = va_up (yl δ) j b t
    rw [mI_sI, va_up_if, va_up_if]; split
    · rfl
    · exact a2 t ht
theorem CA.stD {σ : Ab} {δ : Dy} {M : Mm} (h : CA σ δ M) {j : Nat} {b : Int32} (hb : b01 b) : CA σ (dyD δ (va_up (yd δ) j b)) (sI M 15 j b) := by
  obtain ⟨h1, h2, ⟨d1, d2, d3, d4⟩, h4, ⟨⟨a1, a2, a3, a4⟩, a5, a6, a7, a8, a9⟩⟩ := h
  refine ⟨h1, h2, ⟨d1, d2, fun t ht => ?_, d4⟩, h4.st h1 h2 (by decide), ⟨a1, a2, fun t ht => ?_, a4⟩, a5, a6, a7, a8, fun t ht => ?_⟩
  · show b01 (va_up (yd δ) j b t)
    rw [va_up_if]; split
    · exact hb
    · exact d3 t ht
  · show mI (sI M 15 j b) 15 t = va_up (yd δ) j b t ∧ (va_up (yd δ) j b t = 0 ∨ va_up (yd δ) j b t = 1)
    rw [mI_sI, va_up_if, va_up_if]; split
    · exact ⟨rfl, hb⟩
    · exact a3 t ht
  · show b01 (mI (sI M 15 j b) 15 t) ∧ b01 (mI M 16 t)
    rw [mI_sI, va_up_if]; split
    · exact ⟨hb, (a9 t ht).2⟩
    · exact a9 t ht
theorem CA.stE {σ : Ab} {δ : Dy} {M : Mm} (h : CA σ δ M) {j : Nat} {b : Int32} : CA σ (dyE δ (va_up (ye δ) j b)) (sI M 13 j b) := by
  obtain ⟨h1, h2, h3, h4, ⟨⟨a1, a2, a3, a4⟩, a5, a6, a7, a8, a9⟩⟩ := h
  refine ⟨h1, h2, h3, h4.st h1 h2 (by decide), ⟨a1, a2, a3, a4⟩, fun t ht => ?_, a6, a7, a8, a9⟩
  show mI (sI M 13 j b) 13 t = va_up (ye δ) j b t
  rw [mI_sI, va_up_if, va_up_if]; split
  · rfl
  · exact a5 t ht
end
section
def rmX8_worthIn : Room := { frames := 0, cells := 0, slots := 0, locals := 0 }
set_option maxHeartbeats 4000000 in
set_option maxRecDepth 100000 in
theorem lp_worthIn (g : Gx) (x : Cx) (M : Mm) (c : Nat) (hc : isC c) (hs : St M) (σ : Ab) (w : Wf σ) (V : CV1 σ M) (ps : Rw) (hps : ∀ s, s < zS σ → mI M (c + 1) s = ps s) (h : Int32) : ∀ (n : Nat) (i : Nat) (v b : Int32), i ≤ zS σ → zS σ - i < n → v = nI i → b = sumF (fun s => if ps s = h then zw σ s else 0) i → Vj x g yX8_worthIn cX8_worthIn 5 (Option.some FieldType.int) rmX8_worthIn (Qm x g rmX8_worthIn.cells rmX8_worthIn.slots (pI fun r M' => M' = M ∧ r = inH σ ps h)) 0 0 M 5 [(0, some (.ref (g.1 + 0))), (1, some (.ref (g.1 + c))), (2, some (.int h)), (3, some (.int b)), (4, some (.int v))] [] := by
  intro n
  induction n with
  | zero => intro i v b hiS hn hv hb; omega
  | succ n ih =>
    intro i v b hiS hn hv hb
    refine r_iload dX8_worthIn_5 rfl ?_
    refine r_aload_n dX8_worthIn_7 rfl ?_
    refine r_getI flX8_66_8 rfl (hs.lt (by decide)) (hs.T 0 rfl) dX8_worthIn_8 ?_
    refine r_icmp_ge 45 dX8_worthIn_11 (by decide) (fun c11 => ?_) (fun c11 => ?_)
    · skip
      rw [lp_ge (n := zS σ) hv V.2.1 c11 hiS (by have := w.2.1; omega)] at hb
      refine r_iload_n dX8_worthIn_45 rfl ?_
      exact r_iret dX8_worthIn_46 ⟨_, rfl, rfl, hb⟩
    · skip
      have hi : i < zS σ := lp_lt (n := zS σ) hv V.2.1 c11 hiS (by have := w.2.1; omega)
      have h8 : i < 8 := Nat.lt_of_lt_of_le hi w.2.1
      refine r_iload_n dX8_worthIn_14 rfl ?_
      refine r_dia (P := fun u => u = (if ps i = h then zw σ i else 0)) 37 (fun u hu => ?_) (fun hJ37 => ?_)
      · skip
        refine r_iadd dX8_worthIn_37 ?_
        refine r_istore_n dX8_worthIn_38 (by decide) rfl ?_
        refine r_iinc dX8_worthIn_39 rfl rfl rfl ?_
        refine r_goto 5 dX8_worthIn_42 (by decide) ?_
        exact r_lv (lvSc rfl (lvSc rfl (lvSc rfl (lvSc rfl (lvSc rfl lvS0))))) (ih (i + 1) _ _ (by omega) (by omega) (nI_inc hv) (by rw [sumF, hb, hu]))
      · skip
        refine r_aload_n dX8_worthIn_15 rfl ?_
        refine r_getR flX8_166_1 rfl (hs.cl0 hc) (hs.cT hc) (hs.cR0 hc) dX8_worthIn_16 ?_
        refine r_iload dX8_worthIn_19 rfl ?_
        refine r_ial (hs.cA0 hc) (hs.cl hc 1 (by decide)) (ix_of hv h8 (by decide)) dX8_worthIn_21 ?_
        refine r_iload_n dX8_worthIn_22 rfl ?_
        refine r_icmp_ne 36 dX8_worthIn_23 (by decide) (fun c23 => ?_) (fun c23 => ?_)
        · skip
          refine r_iconst (v := 0) dX8_worthIn_36 (by decide) ?_
          exact hJ37 _ (by rw [hps i hi] at c23; simp [c23, (V.2.2.2 i hi).1])
        · skip
          refine r_aload_n dX8_worthIn_26 rfl ?_
          refine r_getR flX8_29_8 rfl (hs.lt (by decide)) (hs.T 0 rfl) (hs.R 0 3 rfl) dX8_worthIn_27 ?_
          refine r_iload dX8_worthIn_30 rfl ?_
          refine r_ial (hs.T 9 rfl) (hs.lt (by decide)) (ix_of hv h8 (by decide)) dX8_worthIn_32 ?_
          refine r_goto 37 dX8_worthIn_33 (by decide) ?_
          exact hJ37 _ (by rw [hps i hi] at c23; simp [c23, (V.2.2.2 i hi).1])
set_option maxHeartbeats 4000000 in
set_option maxRecDepth 100000 in
theorem kX8_worthIn (g : Gx) (M : Mm) (c : Nat) (hc : isC c) (hs : St M) (σ : Ab) (w : Wf σ) (V : CV1 σ M) (ps : Rw) (hps : ∀ s, s < zS σ → mI M (c + 1) s = ps s) (h : Int32) : Ct g yX8_worthIn cX8_worthIn 5 (Option.some FieldType.int) rmX8_worthIn [.ref (g.1 + 0), .ref (g.1 + c), .int h] M (pI fun r M' => M' = M ∧ r = inH σ ps h) := by
  refine Ct.of rfl (Nat.le_of_ble_eq_true rfl) (fun x => ?_)
  refine r_iconst (v := 0) dX8_worthIn_0 (by decide) ?_
  refine r_istore_n dX8_worthIn_1 (by decide) rfl ?_
  refine r_iconst (v := 0) dX8_worthIn_2 (by decide) ?_
  refine r_istore dX8_worthIn_3 (by decide) rfl ?_
  exact r_lv (lvSc rfl (lvSc rfl (lvSc rfl (lvSc rfl (lvSc rfl lvS0))))) (lp_worthIn g x M c hc hs σ w V ps hps h (zS σ + 1) 0 0 0 (by omega) (by omega) rfl rfl)
def rmX8_worthAtHome : Room := { frames := 0, cells := 0, slots := 0, locals := 0 }
set_option maxHeartbeats 4000000 in
set_option maxRecDepth 100000 in
theorem lp_worthAtHome (g : Gx) (x : Cx) (M : Mm) (c : Nat) (hc : isC c) (hs : St M) (σ : Ab) (w : Wf σ) (V : CV1 σ M) (ps : Rw) (hps : ∀ s, s < zS σ → mI M (c + 1) s = ps s) : ∀ (n : Nat) (i : Nat) (v b : Int32), i ≤ zS σ → zS σ - i < n → v = nI i → b = sumF (fun s => if ps s = zo σ s then zw σ s else 0) i → Vj x g yX8_worthAtHome cX8_worthAtHome 4 (Option.some FieldType.int) rmX8_worthAtHome (Qm x g rmX8_worthAtHome.cells rmX8_worthAtHome.slots (pI fun r M' => M' = M ∧ r = homF σ ps)) 0 0 M 4 [(0, some (.ref (g.1 + 0))), (1, some (.ref (g.1 + c))), (2, some (.int b)), (3, some (.int v))] [] := by
  intro n
  induction n with
  | zero => intro i v b hiS hn hv hb; omega
  | succ n ih =>
    intro i v b hiS hn hv hb
    refine r_iload_n dX8_worthAtHome_4 rfl ?_
    refine r_aload_n dX8_worthAtHome_5 rfl ?_
    refine r_getI flX8_66_8 rfl (hs.lt (by decide)) (hs.T 0 rfl) dX8_worthAtHome_6 ?_
    refine r_icmp_ge 46 dX8_worthAtHome_9 (by decide) (fun c9 => ?_) (fun c9 => ?_)
    · skip
      rw [lp_ge (n := zS σ) hv V.2.1 c9 hiS (by have := w.2.1; omega)] at hb
      refine r_iload_n dX8_worthAtHome_46 rfl ?_
      exact r_iret dX8_worthAtHome_47 ⟨_, rfl, rfl, hb⟩
    · skip
      have hi : i < zS σ := lp_lt (n := zS σ) hv V.2.1 c9 hiS (by have := w.2.1; omega)
      have h8 : i < 8 := Nat.lt_of_lt_of_le hi w.2.1
      refine r_iload_n dX8_worthAtHome_12 rfl ?_
      refine r_dia (P := fun u => u = (if ps i = zo σ i then zw σ i else 0)) 38 (fun u hu => ?_) (fun hJ38 => ?_)
      · skip
        refine r_iadd dX8_worthAtHome_38 ?_
        refine r_istore_n dX8_worthAtHome_39 (by decide) rfl ?_
        refine r_iinc dX8_worthAtHome_40 rfl rfl rfl ?_
        refine r_goto 4 dX8_worthAtHome_43 (by decide) ?_
        exact r_lv (lvSc rfl (lvSc rfl (lvSc rfl (lvSc rfl lvS0)))) (ih (i + 1) _ _ (by omega) (by omega) (nI_inc hv) (by rw [sumF, hb, hu]))
      · skip
        refine r_aload_n dX8_worthAtHome_13 rfl ?_
        refine r_getR flX8_166_1 rfl (hs.cl0 hc) (hs.cT hc) (hs.cR0 hc) dX8_worthAtHome_14 ?_
        refine r_iload_n dX8_worthAtHome_17 rfl ?_
        refine r_ial (hs.cA0 hc) (hs.cl hc 1 (by decide)) (ix_of hv h8 (by decide)) dX8_worthAtHome_18 ?_
        refine r_aload_n dX8_worthAtHome_19 rfl ?_
        refine r_getR flX8_33_8 rfl (hs.lt (by decide)) (hs.T 0 rfl) (hs.R 0 4 rfl) dX8_worthAtHome_20 ?_
        refine r_iload_n dX8_worthAtHome_23 rfl ?_
        refine r_ial (hs.T 10 rfl) (hs.lt (by decide)) (ix_of hv h8 (by decide)) dX8_worthAtHome_24 ?_
        refine r_icmp_ne 37 dX8_worthAtHome_25 (by decide) (fun c25 => ?_) (fun c25 => ?_)
        · skip
          refine r_iconst (v := 0) dX8_worthAtHome_37 (by decide) ?_
          exact hJ38 _ (by rw [hps i hi, (V.2.2.2 i hi).2] at c25; simp [c25, (V.2.2.2 i hi).1])
        · skip
          refine r_aload_n dX8_worthAtHome_28 rfl ?_
          refine r_getR flX8_29_8 rfl (hs.lt (by decide)) (hs.T 0 rfl) (hs.R 0 3 rfl) dX8_worthAtHome_29 ?_
          refine r_iload_n dX8_worthAtHome_32 rfl ?_
          refine r_ial (hs.T 9 rfl) (hs.lt (by decide)) (ix_of hv h8 (by decide)) dX8_worthAtHome_33 ?_
          refine r_goto 38 dX8_worthAtHome_34 (by decide) ?_
          exact hJ38 _ (by rw [hps i hi, (V.2.2.2 i hi).2] at c25; simp [c25, (V.2.2.2 i hi).1])
set_option maxHeartbeats 4000000 in
set_option maxRecDepth 100000 in
theorem kX8_worthAtHome (g : Gx) (M : Mm) (c : Nat) (hc : isC c) (hs : St M) (σ : Ab) (w : Wf σ) (V : CV1 σ M) (ps : Rw) (hps : ∀ s, s < zS σ → mI M (c + 1) s = ps s) : Ct g yX8_worthAtHome cX8_worthAtHome 4 (Option.some FieldType.int) rmX8_worthAtHome [.ref (g.1 + 0), .ref (g.1 + c)] M (pI fun r M' => M' = M ∧ r = homF σ ps) := by
  refine Ct.of rfl (Nat.le_of_ble_eq_true rfl) (fun x => ?_)
  refine r_iconst (v := 0) dX8_worthAtHome_0 (by decide) ?_
  refine r_istore_n dX8_worthAtHome_1 (by decide) rfl ?_
  refine r_iconst (v := 0) dX8_worthAtHome_2 (by decide) ?_
  refine r_istore_n dX8_worthAtHome_3 (by decide) rfl ?_
  exact r_lv (lvSc rfl (lvSc rfl (lvSc rfl (lvSc rfl lvS0)))) (lp_worthAtHome g x M c hc hs σ w V ps hps (zS σ + 1) 0 0 0 (by omega) (by omega) rfl rfl)
def rmX8_spoonsAway : Room := { frames := 0, cells := 0, slots := 0, locals := 0 }
set_option maxHeartbeats 4000000 in
set_option maxRecDepth 100000 in
theorem lp_spoonsAway (g : Gx) (x : Cx) (M : Mm) (σ : Ab) (δ : Dy) (K : CA σ δ M) : ∀ (n : Nat) (i : Nat) (v b : Int32), i ≤ zS σ → zS σ - i < n → v = nI i → b = sumF (fun s => if yp δ s = zo σ s then 0 else 1) i → Vj x g yX8_spoonsAway cX8_spoonsAway 3 (Option.some FieldType.int) rmX8_spoonsAway (Qm x g rmX8_spoonsAway.cells rmX8_spoonsAway.slots (pI fun r M' => M' = M ∧ r = awaF σ (yp δ))) 0 0 M 4 [(0, some (.ref (g.1 + 0))), (1, some (.int b)), (2, some (.int v))] [] := by
  intro n
  induction n with
  | zero => intro i v b hiS hn hv hb; omega
  | succ n ih =>
    intro i v b hiS hn hv hb
    obtain ⟨hs, w, dw, V, D, D2, D3, D4, D5, D6⟩ := id K
    refine r_iload_n dX8_spoonsAway_4 rfl ?_
    refine r_aload_n dX8_spoonsAway_5 rfl ?_
    refine r_getI flX8_66_8 rfl (hs.lt (by decide)) (hs.T 0 rfl) dX8_spoonsAway_6 ?_
    refine r_icmp_ge 44 dX8_spoonsAway_9 (by decide) (fun c9 => ?_) (fun c9 => ?_)
    · skip
      rw [lp_ge (n := zS σ) hv V.2.1 c9 hiS (by have := w.2.1; omega)] at hb
      refine r_iload_n dX8_spoonsAway_44 rfl ?_
      exact r_iret dX8_spoonsAway_45 ⟨_, rfl, rfl, hb⟩
    · skip
      have hi : i < zS σ := lp_lt (n := zS σ) hv V.2.1 c9 hiS (by have := w.2.1; omega)
      have h8 : i < 8 := Nat.lt_of_lt_of_le hi w.2.1
      refine r_iload_n dX8_spoonsAway_12 rfl ?_
      refine r_dia (P := fun u => u = (if yp δ i = zo σ i then 0 else 1)) 36 (fun u hu => ?_) (fun hJ36 => ?_)
      · skip
        refine r_iadd dX8_spoonsAway_36 ?_
        refine r_istore_n dX8_spoonsAway_37 (by decide) rfl ?_
        refine r_iinc dX8_spoonsAway_38 rfl rfl rfl ?_
        refine r_goto 4 dX8_spoonsAway_41 (by decide) ?_
        exact r_lv (lvSc rfl (lvSc rfl (lvSc rfl lvS0))) (ih (i + 1) _ _ (by omega) (by omega) (nI_inc hv) (by rw [sumF, hb, hu]))
      · skip
        refine r_aload_n dX8_spoonsAway_13 rfl ?_
        refine r_getR flX8_39_8 rfl (hs.lt (by decide)) (hs.T 0 rfl) (hs.R 0 5 rfl) dX8_spoonsAway_14 ?_
        refine r_getR flX8_166_1 rfl (hs.lt (by decide)) (hs.T 11 rfl) (hs.R 11 0 rfl) dX8_spoonsAway_17 ?_
        refine r_iload_n dX8_spoonsAway_20 rfl ?_
        refine r_ial (hs.T 12 rfl) (hs.lt (by decide)) (ix_of hv h8 (by decide)) dX8_spoonsAway_21 ?_
        refine r_aload_n dX8_spoonsAway_22 rfl ?_
        refine r_getR flX8_33_8 rfl (hs.lt (by decide)) (hs.T 0 rfl) (hs.R 0 4 rfl) dX8_spoonsAway_23 ?_
        refine r_iload_n dX8_spoonsAway_26 rfl ?_
        refine r_ial (hs.T 10 rfl) (hs.lt (by decide)) (ix_of hv h8 (by decide)) dX8_spoonsAway_27 ?_
        refine r_icmp_eq 35 dX8_spoonsAway_28 (by decide) (fun c28 => ?_) (fun c28 => ?_)
        · skip
          refine r_iconst (v := 0) dX8_spoonsAway_35 (by decide) ?_
          exact hJ36 _ (by rw [show mI M 12 i = yp δ i from D.1 i hi, (V.2.2.2 i hi).2] at c28; simp [c28])
        · skip
          refine r_iconst (v := 1) dX8_spoonsAway_31 (by decide) ?_
          refine r_goto 36 dX8_spoonsAway_32 (by decide) ?_
          exact hJ36 _ (by rw [show mI M 12 i = yp δ i from D.1 i hi, (V.2.2.2 i hi).2] at c28; simp [c28])
set_option maxHeartbeats 4000000 in
set_option maxRecDepth 100000 in
theorem kX8_spoonsAway (g : Gx) (M : Mm) (σ : Ab) (δ : Dy) (K : CA σ δ M) : Ct g yX8_spoonsAway cX8_spoonsAway 3 (Option.some FieldType.int) rmX8_spoonsAway [.ref (g.1 + 0)] M (pI fun r M' => M' = M ∧ r = awaF σ (yp δ)) := by
  obtain ⟨hs, w, dw, V, D, D2, D3, D4, D5, D6⟩ := id K
  refine Ct.of rfl (Nat.le_of_ble_eq_true rfl) (fun x => ?_)
  refine r_iconst (v := 0) dX8_spoonsAway_0 (by decide) ?_
  refine r_istore_n dX8_spoonsAway_1 (by decide) rfl ?_
  refine r_iconst (v := 0) dX8_spoonsAway_2 (by decide) ?_
  refine r_istore_n dX8_spoonsAway_3 (by decide) rfl ?_
  exact r_lv (lvSc rfl (lvSc rfl (lvSc rfl lvS0))) (lp_spoonsAway g x M σ δ K (zS σ + 1) 0 0 0 (by omega) (by omega) rfl rfl)
def rmX8_owes : Room := { frames := 1, cells := 0, slots := 0, locals := 20 }
set_option maxHeartbeats 4000000 in
set_option maxRecDepth 100000 in
theorem lp_owes (g : Gx) (x : Cx) (M : Mm) (σ : Ab) (δ : Dy) (K : CA σ δ M) (p q : Int32) (hpq : (0 ≤ p ∧ p < 8) ∧ (0 ≤ q ∧ q < 8) ∧ ¬ p = q) : ∀ (n : Nat) (i : Nat) (v b : Int32), i ≤ zS σ → zS σ - i < n → v = nI i → b = sumF (fun s => if yp δ s = p ∧ zo σ s = q then zw σ s else 0) i → Vj x g yX8_owes cX8_owes 5 (Option.some FieldType.int) rmX8_owes (Qm x g rmX8_owes.cells rmX8_owes.slots (pI fun r M' => M' = M ∧ r = oweR σ δ p q)) 0 0 M 27 [(0, some (.ref (g.1 + 0))), (1, some (.int p)), (2, some (.int q)), (3, some (.int b)), (4, some (.int v))] [] := by
  intro n
  induction n with
  | zero => intro i v b hiS hn hv hb; omega
  | succ n ih =>
    intro i v b hiS hn hv hb
    obtain ⟨hs, w, dw, V, D, D2, D3, D4, D5, D6⟩ := id K
    refine r_iload dX8_owes_27 rfl ?_
    refine r_aload_n dX8_owes_29 rfl ?_
    refine r_getI flX8_66_8 rfl (hs.lt (by decide)) (hs.T 0 rfl) dX8_owes_30 ?_
    refine r_icmp_ge 81 dX8_owes_33 (by decide) (fun c33 => ?_) (fun c33 => ?_)
    · skip
      rw [lp_ge (n := zS σ) hv V.2.1 c33 hiS (by have := w.2.1; omega)] at hb
      refine r_iload_n dX8_owes_81 rfl ?_
      exact r_iret dX8_owes_82 ⟨_, rfl, rfl, by rw [oweR, if_pos hpq]; exact hb⟩
    · skip
      have hi : i < zS σ := lp_lt (n := zS σ) hv V.2.1 c33 hiS (by have := w.2.1; omega)
      have h8 : i < 8 := Nat.lt_of_lt_of_le hi w.2.1
      refine r_iload_n dX8_owes_36 rfl ?_
      refine r_dia (P := fun u => u = (if yp δ i = p ∧ zo σ i = q then zw σ i else 0)) 73 (fun u hu => ?_) (fun hJ73 => ?_)
      · skip
        refine r_iadd dX8_owes_73 ?_
        refine r_istore_n dX8_owes_74 (by decide) rfl ?_
        refine r_iinc dX8_owes_75 rfl rfl rfl ?_
        refine r_goto 27 dX8_owes_78 (by decide) ?_
        exact r_lv (lvSc rfl (lvSc rfl (lvSc rfl (lvSc rfl (lvSc rfl lvS0))))) (ih (i + 1) _ _ (by omega) (by omega) (nI_inc hv) (by rw [sumF, hb, hu]))
      · skip
        refine r_aload_n dX8_owes_37 rfl ?_
        refine r_getR flX8_39_8 rfl (hs.lt (by decide)) (hs.T 0 rfl) (hs.R 0 5 rfl) dX8_owes_38 ?_
        refine r_getR flX8_166_1 rfl (hs.lt (by decide)) (hs.T 11 rfl) (hs.R 11 0 rfl) dX8_owes_41 ?_
        refine r_iload dX8_owes_44 rfl ?_
        refine r_ial (hs.T 12 rfl) (hs.lt (by decide)) (ix_of hv h8 (by decide)) dX8_owes_46 ?_
        refine r_iload_n dX8_owes_47 rfl ?_
        refine r_icmp_ne 72 dX8_owes_48 (by decide) (fun c48 => ?_) (fun c48 => ?_)
        · skip
          refine r_iconst (v := 0) dX8_owes_72 (by decide) ?_
          exact hJ73 _ (by rw [← show mI M 12 i = yp δ i from D.1 i hi, ← (V.2.2.2 i hi).2, ← (V.2.2.2 i hi).1]; simp [*])
        · skip
          refine r_aload_n dX8_owes_51 rfl ?_
          refine r_getR flX8_33_8 rfl (hs.lt (by decide)) (hs.T 0 rfl) (hs.R 0 4 rfl) dX8_owes_52 ?_
          refine r_iload dX8_owes_55 rfl ?_
          refine r_ial (hs.T 10 rfl) (hs.lt (by decide)) (ix_of hv h8 (by decide)) dX8_owes_57 ?_
          refine r_iload_n dX8_owes_58 rfl ?_
          refine r_icmp_ne 72 dX8_owes_59 (by decide) (fun c59 => ?_) (fun c59 => ?_)
          · skip
            refine r_iconst (v := 0) dX8_owes_72 (by decide) ?_
            exact hJ73 _ (by rw [← show mI M 12 i = yp δ i from D.1 i hi, ← (V.2.2.2 i hi).2, ← (V.2.2.2 i hi).1]; simp [*])
          · skip
            refine r_aload_n dX8_owes_62 rfl ?_
            refine r_getR flX8_29_8 rfl (hs.lt (by decide)) (hs.T 0 rfl) (hs.R 0 3 rfl) dX8_owes_63 ?_
            refine r_iload dX8_owes_66 rfl ?_
            refine r_ial (hs.T 9 rfl) (hs.lt (by decide)) (ix_of hv h8 (by decide)) dX8_owes_68 ?_
            refine r_goto 73 dX8_owes_69 (by decide) ?_
            exact hJ73 _ (by rw [← show mI M 12 i = yp δ i from D.1 i hi, ← (V.2.2.2 i hi).2, ← (V.2.2.2 i hi).1]; simp [*])
set_option maxHeartbeats 4000000 in
set_option maxRecDepth 100000 in
theorem kX8_owes (g : Gx) (M : Mm) (σ : Ab) (δ : Dy) (K : CA σ δ M) (p q : Int32) : Ct g yX8_owes cX8_owes 5 (Option.some FieldType.int) rmX8_owes [.ref (g.1 + 0), .int p, .int q] M (pI fun r M' => M' = M ∧ r = oweR σ δ p q) := by
  obtain ⟨hs, w, dw, V, D, D2, D3, D4, D5, D6⟩ := id K
  refine Ct.of rfl (Nat.le_of_ble_eq_true rfl) (fun x => ?_)
  refine r_iload_n dX8_owes_0 rfl ?_
  refine r_cS1i csX8_157 (kX8_isHouse g M p) hs.pos ⟨Nat.le_of_ble_eq_true rfl, Nat.le_of_ble_eq_true rfl⟩ (Nat.le_of_ble_eq_true rfl) ⟨Nat.le_of_ble_eq_true rfl, Nat.le_of_ble_eq_true rfl⟩ dX8_owes_1 (fun r1 M1 h1 => ?_)
  obtain ⟨e1, h1⟩ := h1
  replace e1 := e1.symm
  subst e1
  refine r_if_eq 19 dX8_owes_4 (by decide) (fun c4 => ?_) (fun c4 => ?_)
  · skip
    refine r_bipush (v := -101) dX8_owes_19 (by decide) ?_
    exact r_iret dX8_owes_21 ⟨_, rfl, rfl, by rw [oweR]; grind⟩
  · skip
    refine r_iload_n dX8_owes_7 rfl ?_
    refine r_cS1i csX8_157 (kX8_isHouse g M q) hs.pos ⟨Nat.le_of_ble_eq_true rfl, Nat.le_of_ble_eq_true rfl⟩ (Nat.le_of_ble_eq_true rfl) ⟨Nat.le_of_ble_eq_true rfl, Nat.le_of_ble_eq_true rfl⟩ dX8_owes_8 (fun r8 M8 h8 => ?_)
    obtain ⟨e8, h8⟩ := h8
    replace e8 := e8.symm
    subst e8
    refine r_if_eq 19 dX8_owes_11 (by decide) (fun c11 => ?_) (fun c11 => ?_)
    · skip
      refine r_bipush (v := -101) dX8_owes_19 (by decide) ?_
      exact r_iret dX8_owes_21 ⟨_, rfl, rfl, by rw [oweR]; grind⟩
    · skip
      refine r_iload_n dX8_owes_14 rfl ?_
      refine r_iload_n dX8_owes_15 rfl ?_
      refine r_icmp_ne 22 dX8_owes_16 (by decide) (fun c16 => ?_) (fun c16 => ?_)
      · skip
        refine r_iconst (v := 0) dX8_owes_22 (by decide) ?_
        refine r_istore_n dX8_owes_23 (by decide) rfl ?_
        refine r_iconst (v := 0) dX8_owes_24 (by decide) ?_
        refine r_istore dX8_owes_25 (by decide) rfl ?_
        exact r_lv (lvSc rfl (lvSc rfl (lvSc rfl (lvSc rfl (lvSc rfl lvS0))))) (lp_owes g x M σ δ K p q ⟨one_of h1 c4, one_of h8 c11, c16⟩ (zS σ + 1) 0 0 0 (by omega) (by omega) rfl rfl)
      · skip
        refine r_bipush (v := -101) dX8_owes_19 (by decide) ?_
        exact r_iret dX8_owes_21 ⟨_, rfl, rfl, by rw [oweR]; grind⟩
def rmX8_tenths : Room := { frames := 1, cells := 0, slots := 0, locals := 21 }
set_option maxHeartbeats 4000000 in
set_option maxRecDepth 100000 in
theorem kX8_tenths (g : Gx) (M : Mm) (σ : Ab) (δ : Dy) (K : CA σ δ M) (t v : Int32) : Ct g yX8_tenths cX8_tenths 4 (Option.some FieldType.int) rmX8_tenths [.ref (g.1 + 0), .int t, .int v] M (pI fun r M' => Fr [17] [] M M' ∧ r = tenR σ δ t v ∧ CA σ (tenD σ δ t v) M') := by
  obtain ⟨hs, w, dw, V, D, D2, D3, D4, D5, D6⟩ := id K
  refine Ct.of rfl (Nat.le_of_ble_eq_true rfl) (fun x => ?_)
  refine r_aload_n dX8_tenths_0 rfl ?_
  refine r_iload_n dX8_tenths_1 rfl ?_
  refine r_cV1i cvX8_133 (kX8_isThief g M hs t) (hs.lt (by decide)) (hs.T 0 rfl) ⟨Nat.le_of_ble_eq_true rfl, Nat.le_of_ble_eq_true rfl⟩ (Nat.le_of_ble_eq_true rfl) ⟨Nat.le_of_ble_eq_true rfl, Nat.le_of_ble_eq_true rfl⟩ dX8_tenths_2 (fun r2 M2 h2 => ?_)
  obtain ⟨e2, h2⟩ := h2
  replace e2 := e2.symm
  subst e2
  rw [V.1] at h2
  refine r_if_ne 11 dX8_tenths_5 (by decide) (fun c5 => ?_) (fun c5 => ?_)
  · skip
    obtain ⟨j, hj, ej⟩ := ix_ex (by have := w.1; omega) (one_of h2 c5).1 (one_of h2 c5).2
    have hj8 : j < 8 := Nat.lt_of_lt_of_le hj w.1
    have hcl : t.toNatClampNeg = j := by rw [ej]; exact nI_clamp (by omega)
    refine r_iload_n dX8_tenths_11 rfl ?_
    refine r_if_lt 21 dX8_tenths_12 (by decide) (fun c12 => ?_) (fun c12 => ?_)
    · skip
      refine r_bipush (v := -102) dX8_tenths_21 (by decide) ?_
      exact r_iret dX8_tenths_23 ⟨_, rfl, Fr.rf _ _ _, by rw [tenR, if_pos (one_of h2 c5), if_neg (by grind)], by rw [tenD, if_neg (by grind)]; exact K⟩
    · skip
      refine r_iload_n dX8_tenths_15 rfl ?_
      refine r_bipush (v := 10) dX8_tenths_16 (by decide) ?_
      refine r_icmp_le 24 dX8_tenths_18 (by decide) (fun c18 => ?_) (fun c18 => ?_)
      · skip
        refine r_aload_n dX8_tenths_24 rfl ?_
        refine r_getR flX8_39_8 rfl (hs.lt (by decide)) (hs.T 0 rfl) (hs.R 0 5 rfl) dX8_tenths_25 ?_
        refine r_getR flX8_130_1 rfl (hs.lt (by decide)) (hs.T 11 rfl) (hs.R 11 5 rfl) dX8_tenths_28 ?_
        refine r_iload_n dX8_tenths_31 rfl ?_
        refine r_ial (hs.T 17 rfl) (hs.lt (by decide)) (ix_of ej hj8 (by decide)) dX8_tenths_32 ?_
        refine r_istore_n dX8_tenths_33 (by decide) rfl ?_
        refine r_aload_n dX8_tenths_34 rfl ?_
        refine r_getR flX8_39_8 rfl (hs.lt (by decide)) (hs.T 0 rfl) (hs.R 0 5 rfl) dX8_tenths_35 ?_
        refine r_getR flX8_130_1 rfl (hs.lt (by decide)) (hs.T 11 rfl) (hs.R 11 5 rfl) dX8_tenths_38 ?_
        refine r_iload_n dX8_tenths_41 rfl ?_
        refine r_iload_n dX8_tenths_42 rfl ?_
        refine r_ias (hs.T 17 rfl) (hs.lt (by decide)) (ix_of ej hj8 (by decide)) dX8_tenths_43 ?_
        refine r_iload_n dX8_tenths_44 rfl ?_
        exact r_iret dX8_tenths_45 ⟨_, rfl, (Fr.rf _ _ _).sI (by simp), by rw [tenR, if_pos (one_of h2 c5), if_pos (by grind), hcl]; exact D3 j hj, by rw [tenD, if_pos ⟨one_of h2 c5, by grind⟩, hcl]; exact K.stT⟩
      · skip
        refine r_bipush (v := -102) dX8_tenths_21 (by decide) ?_
        exact r_iret dX8_tenths_23 ⟨_, rfl, Fr.rf _ _ _, by rw [tenR, if_pos (one_of h2 c5), if_neg (by grind)], by rw [tenD, if_neg (by grind)]; exact K⟩
  · skip
    refine r_bipush (v := -101) dX8_tenths_8 (by decide) ?_
    exact r_iret dX8_tenths_10 ⟨_, rfl, Fr.rf _ _ _, by rw [tenR, if_neg (zero_of h2 c5)], by rw [tenD, if_neg (fun q => zero_of h2 c5 q.1)]; exact K⟩
def rmX8_paid : Room := { frames := 1, cells := 0, slots := 0, locals := 21 }
set_option maxHeartbeats 4000000 in
set_option maxRecDepth 100000 in
theorem kX8_paid (g : Gx) (M : Mm) (σ : Ab) (δ : Dy) (K : CA σ δ M) (t b : Int32) (hb : b01 b) : Ct g yX8_paid cX8_paid 4 (Option.some FieldType.int) rmX8_paid [.ref (g.1 + 0), .int t, .int b] M (pI fun r M' => Fr [16] [] M M' ∧ r = paidR σ δ t ∧ CA σ (paidD σ δ t b) M') := by
  obtain ⟨hs, w, dw, V, D, D2, D3, D4, D5, D6⟩ := id K
  refine Ct.of rfl (Nat.le_of_ble_eq_true rfl) (fun x => ?_)
  refine r_aload_n dX8_paid_0 rfl ?_
  refine r_iload_n dX8_paid_1 rfl ?_
  refine r_cV1i cvX8_133 (kX8_isThief g M hs t) (hs.lt (by decide)) (hs.T 0 rfl) ⟨Nat.le_of_ble_eq_true rfl, Nat.le_of_ble_eq_true rfl⟩ (Nat.le_of_ble_eq_true rfl) ⟨Nat.le_of_ble_eq_true rfl, Nat.le_of_ble_eq_true rfl⟩ dX8_paid_2 (fun r2 M2 h2 => ?_)
  obtain ⟨e2, h2⟩ := h2
  replace e2 := e2.symm
  subst e2
  rw [V.1] at h2
  refine r_if_ne 11 dX8_paid_5 (by decide) (fun c5 => ?_) (fun c5 => ?_)
  · skip
    obtain ⟨j, hj, ej⟩ := ix_ex (by have := w.1; omega) (one_of h2 c5).1 (one_of h2 c5).2
    have hj8 : j < 8 := Nat.lt_of_lt_of_le hj w.1
    have hcl : t.toNatClampNeg = j := by rw [ej]; exact nI_clamp (by omega)
    refine r_aload_n dX8_paid_11 rfl ?_
    refine r_getR flX8_39_8 rfl (hs.lt (by decide)) (hs.T 0 rfl) (hs.R 0 5 rfl) dX8_paid_12 ?_
    refine r_getR flX8_126_1 rfl (hs.lt (by decide)) (hs.T 11 rfl) (hs.R 11 4 rfl) dX8_paid_15 ?_
    refine r_iload_n dX8_paid_18 rfl ?_
    refine r_zal (hs.T 16 rfl) (hs.lt (by decide)) (ix_of ej hj8 (by decide)) dX8_paid_19 ?_
    refine r_cS1i csX8_149 (kX8_asNumber g M (mI M 16 j)) hs.pos ⟨Nat.le_of_ble_eq_true rfl, Nat.le_of_ble_eq_true rfl⟩ (Nat.le_of_ble_eq_true rfl) ⟨Nat.le_of_ble_eq_true rfl, Nat.le_of_ble_eq_true rfl⟩ dX8_paid_20 (fun r20 M20 h20 => ?_)
    obtain ⟨e20, h20⟩ := h20
    replace e20 := e20.symm
    subst e20
    refine r_istore_n dX8_paid_23 (by decide) rfl ?_
    refine r_aload_n dX8_paid_24 rfl ?_
    refine r_getR flX8_39_8 rfl (hs.lt (by decide)) (hs.T 0 rfl) (hs.R 0 5 rfl) dX8_paid_25 ?_
    refine r_getR flX8_126_1 rfl (hs.lt (by decide)) (hs.T 11 rfl) (hs.R 11 4 rfl) dX8_paid_28 ?_
    refine r_iload_n dX8_paid_31 rfl ?_
    refine r_iload_n dX8_paid_32 rfl ?_
    refine r_zas (hs.T 16 rfl) (hs.lt (by decide)) (ix_of ej hj8 (by decide)) hb dX8_paid_33 ?_
    refine r_iload_n dX8_paid_34 rfl ?_
    exact r_iret dX8_paid_35 ⟨_, rfl, (Fr.rf _ _ _).sI (by simp), by rw [paidR, if_pos (one_of h2 c5), hcl, h20]; have := D.2.2.2 j hj; rw [show mI M 16 j = yq δ j from this.1]; rcases this.2 with e | e <;> rw [e] <;> rfl, by rw [paidD, if_pos (one_of h2 c5), hcl]; exact K.stP hj hb⟩
  · skip
    refine r_bipush (v := -101) dX8_paid_8 (by decide) ?_
    exact r_iret dX8_paid_10 ⟨_, rfl, Fr.rf _ _ _, by rw [paidR, if_neg (zero_of h2 c5)], by rw [paidD, if_neg (zero_of h2 c5)]; exact K⟩
def rmX8_lock : Room := { frames := 1, cells := 0, slots := 0, locals := 20 }
set_option maxHeartbeats 4000000 in
set_option maxRecDepth 100000 in
theorem kX8_lock (g : Gx) (M : Mm) (σ : Ab) (δ : Dy) (K : CA σ δ M) (t v : Int32) : Ct g yX8_lock cX8_lock 4 (Option.some FieldType.int) rmX8_lock [.ref (g.1 + 0), .int t, .int v] M (pI fun r M' => Fr [14] [] M M' ∧ r = lockR δ t v ∧ CA σ (lockD δ t v) M') := by
  obtain ⟨hs, w, dw, V, D, D2, D3, D4, D5, D6⟩ := id K
  refine Ct.of rfl (Nat.le_of_ble_eq_true rfl) (fun x => ?_)
  refine r_iload_n dX8_lock_0 rfl ?_
  refine r_cS1i csX8_157 (kX8_isHouse g M t) hs.pos ⟨Nat.le_of_ble_eq_true rfl, Nat.le_of_ble_eq_true rfl⟩ (Nat.le_of_ble_eq_true rfl) ⟨Nat.le_of_ble_eq_true rfl, Nat.le_of_ble_eq_true rfl⟩ dX8_lock_1 (fun r1 M1 h1 => ?_)
  obtain ⟨e1, h1⟩ := h1
  replace e1 := e1.symm
  subst e1
  refine r_if_ne 10 dX8_lock_4 (by decide) (fun c4 => ?_) (fun c4 => ?_)
  · skip
    obtain ⟨j, hj8, ej⟩ := ix_ex (n := 8) (by decide) (one_of h1 c4).1 (one_of h1 c4).2
    have hcl : t.toNatClampNeg = j := by rw [ej]; exact nI_clamp (by omega)
    refine r_iload_n dX8_lock_10 rfl ?_
    refine r_if_lt 20 dX8_lock_11 (by decide) (fun c11 => ?_) (fun c11 => ?_)
    · skip
      refine r_bipush (v := -102) dX8_lock_20 (by decide) ?_
      exact r_iret dX8_lock_22 ⟨_, rfl, Fr.rf _ _ _, by rw [lockR, if_pos (one_of h1 c4), if_neg (by grind)], by rw [lockD, if_neg (by grind)]; exact K⟩
    · skip
      refine r_iload_n dX8_lock_14 rfl ?_
      refine r_bipush (v := 9) dX8_lock_15 (by decide) ?_
      refine r_icmp_le 23 dX8_lock_17 (by decide) (fun c17 => ?_) (fun c17 => ?_)
      · skip
        refine r_aload_n dX8_lock_23 rfl ?_
        refine r_getR flX8_39_8 rfl (hs.lt (by decide)) (hs.T 0 rfl) (hs.R 0 5 rfl) dX8_lock_24 ?_
        refine r_getR flX8_160_1 rfl (hs.lt (by decide)) (hs.T 11 rfl) (hs.R 11 2 rfl) dX8_lock_27 ?_
        refine r_iload_n dX8_lock_30 rfl ?_
        refine r_ial (hs.T 14 rfl) (hs.lt (by decide)) (ix_of ej hj8 (by decide)) dX8_lock_31 ?_
        refine r_istore_n dX8_lock_32 (by decide) rfl ?_
        refine r_aload_n dX8_lock_33 rfl ?_
        refine r_getR flX8_39_8 rfl (hs.lt (by decide)) (hs.T 0 rfl) (hs.R 0 5 rfl) dX8_lock_34 ?_
        refine r_getR flX8_160_1 rfl (hs.lt (by decide)) (hs.T 11 rfl) (hs.R 11 2 rfl) dX8_lock_37 ?_
        refine r_iload_n dX8_lock_40 rfl ?_
        refine r_iload_n dX8_lock_41 rfl ?_
        refine r_ias (hs.T 14 rfl) (hs.lt (by decide)) (ix_of ej hj8 (by decide)) dX8_lock_42 ?_
        refine r_iload_n dX8_lock_43 rfl ?_
        exact r_iret dX8_lock_44 ⟨_, rfl, (Fr.rf _ _ _).sI (by simp), by rw [lockR, if_pos (one_of h1 c4), if_pos (by grind), hcl]; exact D.2.1 j hj8, by rw [lockD, if_pos ⟨one_of h1 c4, by grind⟩, hcl]; exact K.stL (by grind)⟩
      · skip
        refine r_bipush (v := -102) dX8_lock_20 (by decide) ?_
        exact r_iret dX8_lock_22 ⟨_, rfl, Fr.rf _ _ _, by rw [lockR, if_pos (one_of h1 c4), if_neg (by grind)], by rw [lockD, if_neg (by grind)]; exact K⟩
  · skip
    refine r_bipush (v := -101) dX8_lock_7 (by decide) ?_
    exact r_iret dX8_lock_9 ⟨_, rfl, Fr.rf _ _ _, by rw [lockR, if_neg (zero_of h1 c4)], by rw [lockD, if_neg (fun q => zero_of h1 c4 q.1)]; exact K⟩
def rmX8_dog : Room := { frames := 1, cells := 0, slots := 0, locals := 20 }
set_option maxHeartbeats 4000000 in
set_option maxRecDepth 100000 in
theorem kX8_dog (g : Gx) (M : Mm) (σ : Ab) (δ : Dy) (K : CA σ δ M) (t b : Int32) (hb : b01 b) : Ct g yX8_dog cX8_dog 4 (Option.some FieldType.int) rmX8_dog [.ref (g.1 + 0), .int t, .int b] M (pI fun r M' => Fr [15] [] M M' ∧ r = dogR δ t ∧ CA σ (dogD δ t b) M') := by
  obtain ⟨hs, w, dw, V, D, D2, D3, D4, D5, D6⟩ := id K
  refine Ct.of rfl (Nat.le_of_ble_eq_true rfl) (fun x => ?_)
  refine r_iload_n dX8_dog_0 rfl ?_
  refine r_cS1i csX8_157 (kX8_isHouse g M t) hs.pos ⟨Nat.le_of_ble_eq_true rfl, Nat.le_of_ble_eq_true rfl⟩ (Nat.le_of_ble_eq_true rfl) ⟨Nat.le_of_ble_eq_true rfl, Nat.le_of_ble_eq_true rfl⟩ dX8_dog_1 (fun r1 M1 h1 => ?_)
  obtain ⟨e1, h1⟩ := h1
  replace e1 := e1.symm
  subst e1
  refine r_if_ne 10 dX8_dog_4 (by decide) (fun c4 => ?_) (fun c4 => ?_)
  · skip
    obtain ⟨j, hj8, ej⟩ := ix_ex (n := 8) (by decide) (one_of h1 c4).1 (one_of h1 c4).2
    have hcl : t.toNatClampNeg = j := by rw [ej]; exact nI_clamp (by omega)
    refine r_aload_n dX8_dog_10 rfl ?_
    refine r_getR flX8_39_8 rfl (hs.lt (by decide)) (hs.T 0 rfl) (hs.R 0 5 rfl) dX8_dog_11 ?_
    refine r_getR flX8_163_1 rfl (hs.lt (by decide)) (hs.T 11 rfl) (hs.R 11 3 rfl) dX8_dog_14 ?_
    refine r_iload_n dX8_dog_17 rfl ?_
    refine r_zal (hs.T 15 rfl) (hs.lt (by decide)) (ix_of ej hj8 (by decide)) dX8_dog_18 ?_
    refine r_cS1i csX8_149 (kX8_asNumber g M (mI M 15 j)) hs.pos ⟨Nat.le_of_ble_eq_true rfl, Nat.le_of_ble_eq_true rfl⟩ (Nat.le_of_ble_eq_true rfl) ⟨Nat.le_of_ble_eq_true rfl, Nat.le_of_ble_eq_true rfl⟩ dX8_dog_19 (fun r19 M19 h19 => ?_)
    obtain ⟨e19, h19⟩ := h19
    replace e19 := e19.symm
    subst e19
    refine r_istore_n dX8_dog_22 (by decide) rfl ?_
    refine r_aload_n dX8_dog_23 rfl ?_
    refine r_getR flX8_39_8 rfl (hs.lt (by decide)) (hs.T 0 rfl) (hs.R 0 5 rfl) dX8_dog_24 ?_
    refine r_getR flX8_163_1 rfl (hs.lt (by decide)) (hs.T 11 rfl) (hs.R 11 3 rfl) dX8_dog_27 ?_
    refine r_iload_n dX8_dog_30 rfl ?_
    refine r_iload_n dX8_dog_31 rfl ?_
    refine r_zas (hs.T 15 rfl) (hs.lt (by decide)) (ix_of ej hj8 (by decide)) hb dX8_dog_32 ?_
    refine r_iload_n dX8_dog_33 rfl ?_
    exact r_iret dX8_dog_34 ⟨_, rfl, (Fr.rf _ _ _).sI (by simp), by rw [dogR, if_pos (one_of h1 c4), hcl, h19]; have := D.2.2.1 j hj8; rw [show mI M 15 j = yd δ j from this.1]; rcases this.2 with e | e <;> rw [e] <;> rfl, by rw [dogD, if_pos (one_of h1 c4), hcl]; exact K.stD hb⟩
  · skip
    refine r_bipush (v := -101) dX8_dog_7 (by decide) ?_
    exact r_iret dX8_dog_9 ⟨_, rfl, Fr.rf _ _ _, by rw [dogR, if_neg (zero_of h1 c4)], by rw [dogD, if_neg (zero_of h1 c4)]; exact K⟩
def rmX8_seen : Room := { frames := 1, cells := 0, slots := 0, locals := 21 }
set_option maxHeartbeats 4000000 in
set_option maxRecDepth 100000 in
theorem kX8_seen (g : Gx) (M : Mm) (σ : Ab) (δ : Dy) (K : CA σ δ M) (t v : Int32) : Ct g yX8_seen cX8_seen 4 (Option.some FieldType.int) rmX8_seen [.ref (g.1 + 0), .int t, .int v] M (pI fun r M' => Fr [13] [] M M' ∧ r = seeR σ δ t v ∧ CA σ (seeD σ δ t v) M') := by
  obtain ⟨hs, w, dw, V, D, D2, D3, D4, D5, D6⟩ := id K
  refine Ct.of rfl (Nat.le_of_ble_eq_true rfl) (fun x => ?_)
  refine r_aload_n dX8_seen_0 rfl ?_
  refine r_iload_n dX8_seen_1 rfl ?_
  refine r_cV1i cvX8_172 (kX8_isSpoon g M hs t) (hs.lt (by decide)) (hs.T 0 rfl) ⟨Nat.le_of_ble_eq_true rfl, Nat.le_of_ble_eq_true rfl⟩ (Nat.le_of_ble_eq_true rfl) ⟨Nat.le_of_ble_eq_true rfl, Nat.le_of_ble_eq_true rfl⟩ dX8_seen_2 (fun r2 M2 h2 => ?_)
  obtain ⟨e2, h2⟩ := h2
  replace e2 := e2.symm
  subst e2
  rw [V.2.1] at h2
  refine r_if_eq 20 dX8_seen_5 (by decide) (fun c5 => ?_) (fun c5 => ?_)
  · skip
    refine r_bipush (v := -101) dX8_seen_20 (by decide) ?_
    exact r_iret dX8_seen_22 ⟨_, rfl, Fr.rf _ _ _, by rw [seeR, if_neg (by grind)], by rw [seeD, if_neg (by grind)]; exact K⟩
  · skip
    obtain ⟨j, hj, ej⟩ := ix_ex (by have := w.2.1; omega) (one_of h2 c5).1 (one_of h2 c5).2
    have hj8 : j < 8 := Nat.lt_of_lt_of_le hj w.2.1
    have hcl : t.toNatClampNeg = j := by rw [ej]; exact nI_clamp (by omega)
    refine r_iload_n dX8_seen_8 rfl ?_
    refine r_iconst (v := -1) dX8_seen_9 (by decide) ?_
    refine r_icmp_eq 23 dX8_seen_10 (by decide) (fun c10 => ?_) (fun c10 => ?_)
    · skip
      refine r_aload_n dX8_seen_23 rfl ?_
      refine r_getR flX8_39_8 rfl (hs.lt (by decide)) (hs.T 0 rfl) (hs.R 0 5 rfl) dX8_seen_24 ?_
      refine r_getR flX8_169_1 rfl (hs.lt (by decide)) (hs.T 11 rfl) (hs.R 11 1 rfl) dX8_seen_27 ?_
      refine r_iload_n dX8_seen_30 rfl ?_
      refine r_ial (hs.T 13 rfl) (hs.lt (by decide)) (ix_of ej hj8 (by decide)) dX8_seen_31 ?_
      refine r_istore_n dX8_seen_32 (by decide) rfl ?_
      refine r_aload_n dX8_seen_33 rfl ?_
      refine r_getR flX8_39_8 rfl (hs.lt (by decide)) (hs.T 0 rfl) (hs.R 0 5 rfl) dX8_seen_34 ?_
      refine r_getR flX8_169_1 rfl (hs.lt (by decide)) (hs.T 11 rfl) (hs.R 11 1 rfl) dX8_seen_37 ?_
      refine r_iload_n dX8_seen_40 rfl ?_
      refine r_iload_n dX8_seen_41 rfl ?_
      refine r_ias (hs.T 13 rfl) (hs.lt (by decide)) (ix_of ej hj8 (by decide)) dX8_seen_42 ?_
      refine r_iload_n dX8_seen_43 rfl ?_
      exact r_iret dX8_seen_44 ⟨_, rfl, (Fr.rf _ _ _).sI (by simp), by rw [seeR, if_pos ⟨one_of h2 c5, by grind⟩, hcl]; exact D2 j hj, by rw [seeD, if_pos ⟨one_of h2 c5, by grind⟩, hcl]; exact K.stE⟩
    · skip
      refine r_iload_n dX8_seen_13 rfl ?_
      refine r_cS1i csX8_157 (kX8_isHouse g M v) hs.pos ⟨Nat.le_of_ble_eq_true rfl, Nat.le_of_ble_eq_true rfl⟩ (Nat.le_of_ble_eq_true rfl) ⟨Nat.le_of_ble_eq_true rfl, Nat.le_of_ble_eq_true rfl⟩ dX8_seen_14 (fun r14 M14 h14 => ?_)
      obtain ⟨e14, h14⟩ := h14
      replace e14 := e14.symm
      subst e14
      refine r_if_ne 23 dX8_seen_17 (by decide) (fun c17 => ?_) (fun c17 => ?_)
      · skip
        refine r_aload_n dX8_seen_23 rfl ?_
        refine r_getR flX8_39_8 rfl (hs.lt (by decide)) (hs.T 0 rfl) (hs.R 0 5 rfl) dX8_seen_24 ?_
        refine r_getR flX8_169_1 rfl (hs.lt (by decide)) (hs.T 11 rfl) (hs.R 11 1 rfl) dX8_seen_27 ?_
        refine r_iload_n dX8_seen_30 rfl ?_
        refine r_ial (hs.T 13 rfl) (hs.lt (by decide)) (ix_of ej hj8 (by decide)) dX8_seen_31 ?_
        refine r_istore_n dX8_seen_32 (by decide) rfl ?_
        refine r_aload_n dX8_seen_33 rfl ?_
        refine r_getR flX8_39_8 rfl (hs.lt (by decide)) (hs.T 0 rfl) (hs.R 0 5 rfl) dX8_seen_34 ?_
        refine r_getR flX8_169_1 rfl (hs.lt (by decide)) (hs.T 11 rfl) (hs.R 11 1 rfl) dX8_seen_37 ?_
        refine r_iload_n dX8_seen_40 rfl ?_
        refine r_iload_n dX8_seen_41 rfl ?_
        refine r_ias (hs.T 13 rfl) (hs.lt (by decide)) (ix_of ej hj8 (by decide)) dX8_seen_42 ?_
        refine r_iload_n dX8_seen_43 rfl ?_
        exact r_iret dX8_seen_44 ⟨_, rfl, (Fr.rf _ _ _).sI (by simp), by rw [seeR, if_pos ⟨one_of h2 c5, by grind⟩, hcl]; exact D2 j hj, by rw [seeD, if_pos ⟨one_of h2 c5, by grind⟩, hcl]; exact K.stE⟩
      · skip
        refine r_bipush (v := -101) dX8_seen_20 (by decide) ?_
        exact r_iret dX8_seen_22 ⟨_, rfl, Fr.rf _ _ _, by rw [seeR, if_neg (by grind)], by rw [seeD, if_neg (by grind)]; exact K⟩
def rmX8_worth : Room := { frames := 1, cells := 0, slots := 0, locals := 24 }
set_option maxHeartbeats 4000000 in
set_option maxRecDepth 100000 in
theorem kX8_worth (g : Gx) (M : Mm) (σ : Ab) (δ : Dy) (K : CA σ δ M) (t : Int32) : Ct g yX8_worth cX8_worth 2 (Option.some FieldType.int) rmX8_worth [.ref (g.1 + 0), .int t] M (pI fun r M' => M' = M ∧ r = worR σ δ t) := by
  obtain ⟨hs, w, dw, V, D, D2, D3, D4, D5, D6⟩ := id K
  refine Ct.of rfl (Nat.le_of_ble_eq_true rfl) (fun x => ?_)
  refine r_iload_n dX8_worth_0 rfl ?_
  refine r_cS1i csX8_157 (kX8_isHouse g M t) hs.pos ⟨Nat.le_of_ble_eq_true rfl, Nat.le_of_ble_eq_true rfl⟩ (Nat.le_of_ble_eq_true rfl) ⟨Nat.le_of_ble_eq_true rfl, Nat.le_of_ble_eq_true rfl⟩ dX8_worth_1 (fun r1 M1 h1 => ?_)
  obtain ⟨e1, h1⟩ := h1
  replace e1 := e1.symm
  subst e1
  refine r_if_ne 10 dX8_worth_4 (by decide) (fun c4 => ?_) (fun c4 => ?_)
  · skip
    refine r_aload_n dX8_worth_10 rfl ?_
    refine r_aload_n dX8_worth_11 rfl ?_
    refine r_getR flX8_39_8 rfl (hs.lt (by decide)) (hs.T 0 rfl) (hs.R 0 5 rfl) dX8_worth_12 ?_
    refine r_iload_n dX8_worth_15 rfl ?_
    refine r_cV2i cvX8_175 (kX8_worthIn g M 11 (Or.inl rfl) hs σ w V (yp δ) D.1 t) (hs.lt (by decide)) (hs.T 0 rfl) ⟨Nat.le_of_ble_eq_true rfl, Nat.le_of_ble_eq_true rfl⟩ (Nat.le_of_ble_eq_true rfl) ⟨Nat.le_of_ble_eq_true rfl, Nat.le_of_ble_eq_true rfl⟩ dX8_worth_16 (fun r16 M16 h16 => ?_)
    obtain ⟨e16, h16⟩ := h16
    replace e16 := e16.symm
    subst e16
    exact r_iret dX8_worth_19 ⟨_, rfl, rfl, by rw [worR, if_pos (one_of h1 c4)]; exact h16⟩
  · skip
    refine r_bipush (v := -101) dX8_worth_7 (by decide) ?_
    exact r_iret dX8_worth_9 ⟨_, rfl, rfl, by rw [worR, if_neg (zero_of h1 c4)]⟩
end
