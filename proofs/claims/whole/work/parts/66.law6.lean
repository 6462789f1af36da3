set_option maxHeartbeats 4000000 in
set_option maxRecDepth 100000 in
theorem lc_sw (g : Gx) (x : Cx) (Q : State → Prop) (b L : Nat) (zs : Nat → Int32) (hX : va_X b L zs x.2.2.2.1 x.2.2.2.1.heap) (hb : b < x.2.2.2.1.heap.size) (hg : b < g.1) (hL : L ≤ 2560) (i : Nat) (hi : i + 5 ≤ L) (k sl : Nat) (hk : k + 8 ≤ 600000) (hsl : sl + 24 ≤ 7302250) (σ : Ab) (δ : Dy) (pg : Rw) (pn tr : Nat) (M : Mm) (I : LI σ δ pg pn tr M) (K : ∀ M' σ' δ' pg' pn' tr' k' sl', LI σ' δ' pg' pn' tr' M' → tr' ≤ tr + 1 → k' ≤ k + 8 → sl' ≤ sl + 24 → Vj x g yL_law cL_law 4 (some .boolean) room_1 Q k' sl' M' 921 [(0, some (.ref b)), (1, some (.ref (g.1 + 0))), (2, some (.ref (g.1 + 44))), (3, some (.int (nI i)))] []) (htr : tr ≤ 4000) : Vj x g yL_law cL_law 4 (some .boolean) room_1 Q k sl M 26 [(0, some (.ref b)), (1, some (.ref (g.1 + 0))), (2, some (.ref (g.1 + 44))), (3, some (.int (nI i)))] [] := by
  refine r_aload_n dL_law_26 rfl ?_
  refine r_iload_n dL_law_27 rfl ?_
  refine r_sld hX hb hg (vp_in_nI (by omega) (by omega)) dL_law_28 ?_
  rw [nI_clamp (show i < 2 ^ 31 by omega)]
  refine r_bipush (v := 31) dL_law_29 (by decide) ?_
  refine r_iand dL_law_31 ?_
  refine r_top (fun u hu => ?_)
  by_cases w0 : u = 0
  · skip
    subst w0
    refine r_tableIn 156 (off := 124) dL_law_32 (by decide) (by decide) (by decide) (by decide) ?_
    exact lc_letters g x Q b L zs hX hb hg hL i hi k sl hk hsl σ δ pg pn tr M I K
  · skip
    by_cases w1 : u = 1
    · skip
      subst w1
      refine r_tableIn 209 (off := 177) dL_law_32 (by decide) (by decide) (by decide) (by decide) ?_
      exact lc_blank g x Q b L zs hX hb hg hL i hi k sl hk hsl σ δ pg pn tr M I K
    · skip
      by_cases w2 : u = 2
      · skip
        subst w2
        refine r_tableIn 222 (off := 190) dL_law_32 (by decide) (by decide) (by decide) (by decide) ?_
        exact lc_fault g x Q b L zs hX hb hg hL i hi k sl hk hsl σ δ pg pn tr M I K
      · skip
        by_cases w3 : u = 3
        · skip
          subst w3
          refine r_tableIn 235 (off := 203) dL_law_32 (by decide) (by decide) (by decide) (by decide) ?_
          exact lc_contracts g x Q b L zs hX hb hg hL i hi k sl hk hsl σ δ pg pn tr M I K
        · skip
          by_cases w4 : u = 4
          · skip
            subst w4
            refine r_tableIn 248 (off := 216) dL_law_32 (by decide) (by decide) (by decide) (by decide) ?_
            exact lc_about g x Q b L zs hX hb hg hL i hi k sl hk hsl σ δ pg pn tr M I K
          · skip
            by_cases w5 : u = 5
            · skip
              subst w5
              refine r_tableIn 281 (off := 249) dL_law_32 (by decide) (by decide) (by decide) (by decide) ?_
              exact lc_as g x Q b L zs hX hb hg hL i hi k sl hk hsl σ δ pg pn tr M I K
            · skip
              by_cases w6 : u = 6
              · skip
                subst w6
                refine r_tableIn 314 (off := 282) dL_law_32 (by decide) (by decide) (by decide) (by decide) ?_
                exact lc_paid g x Q b L zs hX hb hg hL i hi k sl hk hsl σ δ pg pn tr M I K
              · skip
                by_cases w7 : u = 7
                · skip
                  subst w7
                  refine r_tableIn 363 (off := 331) dL_law_32 (by decide) (by decide) (by decide) (by decide) ?_
                  exact lc_tenths g x Q b L zs hX hb hg hL i hi k sl hk hsl σ δ pg pn tr M I K
                · skip
                  by_cases w8 : u = 8
                  · skip
                    subst w8
                    refine r_tableIn 396 (off := 364) dL_law_32 (by decide) (by decide) (by decide) (by decide) ?_
                    exact lc_lock g x Q b L zs hX hb hg hL i hi k sl hk hsl σ δ pg pn tr M I K
                  · skip
                    by_cases w9 : u = 9
                    · skip
                      subst w9
                      refine r_tableIn 429 (off := 397) dL_law_32 (by decide) (by decide) (by decide) (by decide) ?_
                      exact lc_dog g x Q b L zs hX hb hg hL i hi k sl hk hsl σ δ pg pn tr M I K
                    · skip
                      by_cases w10 : u = 10
                      · skip
                        subst w10
                        refine r_tableIn 478 (off := 446) dL_law_32 (by decide) (by decide) (by decide) (by decide) ?_
                        exact lc_spoon g x Q b L zs hX hb hg hL i hi k sl hk hsl σ δ pg pn tr M I K
                      · skip
                        by_cases w11 : u = 11
                        · skip
                          subst w11
                          refine r_tableIn 511 (off := 479) dL_law_32 (by decide) (by decide) (by decide) (by decide) ?_
                          exact lc_silver g x Q b L zs hX hb hg hL i hi k sl hk hsl σ δ pg pn tr M I K
                        · skip
                          by_cases w12 : u = 12
                          · skip
                            subst w12
                            refine r_tableIn 544 (off := 512) dL_law_32 (by decide) (by decide) (by decide) (by decide) ?_
                            exact lc_worth g x Q b L zs hX hb hg hL i hi k sl hk hsl σ δ pg pn tr M I K
                          · skip
                            by_cases w13 : u = 13
                            · skip
                              subst w13
                              refine r_tableIn 567 (off := 535) dL_law_32 (by decide) (by decide) (by decide) (by decide) ?_
                              exact lc_month g x Q b L zs hX hb hg hL i hi k sl hk hsl σ δ pg pn tr M I K
                            · skip
                              by_cases w14 : u = 14
                              · skip
                                subst w14
                                refine r_tableIn 580 (off := 548) dL_law_32 (by decide) (by decide) (by decide) (by decide) ?_
                                exact lc_where g x Q b L zs hX hb hg hL i hi k sl hk hsl σ δ pg pn tr M I K
                              · skip
                                by_cases w15 : u = 15
                                · skip
                                  subst w15
                                  refine r_tableIn 613 (off := 581) dL_law_32 (by decide) (by decide) (by decide) (by decide) ?_
                                  exact lc_chance g x Q b L zs hX hb hg hL i hi k sl hk hsl σ δ pg pn tr M I K
                                · skip
                                  by_cases w16 : u = 16
                                  · skip
                                    subst w16
                                    refine r_tableIn 667 (off := 635) dL_law_32 (by decide) (by decide) (by decide) (by decide) ?_
                                    exact lc_whom g x Q b L zs hX hb hg hL i hi k sl hk hsl σ δ pg pn tr M I K
                                  · skip
                                    by_cases w17 : u = 17
                                    · skip
                                      subst w17
                                      refine r_tableIn 710 (off := 678) dL_law_32 (by decide) (by decide) (by decide) (by decide) ?_
                                      exact lc_still g x Q b L zs hX hb hg hL i hi k sl hk hsl σ δ pg pn tr M I K
                                    · skip
                                      by_cases w18 : u = 18
                                      · skip
                                        subst w18
                                        refine r_tableIn 723 (off := 691) dL_law_32 (by decide) (by decide) (by decide) (by decide) ?_
                                        exact lc_seen g x Q b L zs hX hb hg hL i hi k sl hk hsl σ δ pg pn tr M I K
                                      · skip
                                        by_cases w19 : u = 19
                                        · skip
                                          subst w19
                                          refine r_tableIn 756 (off := 724) dL_law_32 (by decide) (by decide) (by decide) (by decide) ?_
                                          exact lc_who g x Q b L zs hX hb hg hL i hi k sl hk hsl σ δ pg pn tr M I K
                                        · skip
                                          by_cases w20 : u = 20
                                          · skip
                                            subst w20
                                            refine r_tableIn 769 (off := 737) dL_law_32 (by decide) (by decide) (by decide) (by decide) ?_
                                            exact lc_owes g x Q b L zs hX hb hg hL i hi k sl hk hsl σ δ pg pn tr M I K
                                          · skip
                                            by_cases w21 : u = 21
                                            · skip
                                              subst w21
                                              refine r_tableIn 802 (off := 770) dL_law_32 (by decide) (by decide) (by decide) (by decide) ?_
                                              exact lc_fewest g x Q b L zs hX hb hg hL i hi k sl hk hsl σ δ pg pn tr M I K
                                            · skip
                                              by_cases w22 : u = 22
                                              · skip
                                                subst w22
                                                refine r_tableIn 815 (off := 783) dL_law_32 (by decide) (by decide) (by decide) (by decide) ?_
                                                exact lc_months g x Q b L zs hX hb hg hL i hi k sl hk hsl σ δ pg pn tr M I K
                                              · skip
                                                by_cases w23 : u = 23
                                                · skip
                                                  subst w23
                                                  refine r_tableIn 858 (off := 826) dL_law_32 (by decide) (by decide) (by decide) (by decide) ?_
                                                  exact lc_image g x Q b L zs hX hb hg hL i hi k sl hk hsl σ δ pg pn tr M I K
                                                · skip
                                                  by_cases w24 : u = 24
                                                  · skip
                                                    subst w24
                                                    refine r_tableIn 871 (off := 839) dL_law_32 (by decide) (by decide) (by decide) (by decide) ?_
                                                    exact lc_restore g x Q b L zs hX hb hg hL i hi k sl hk hsl σ δ pg pn tr M I K htr
                                                  · skip
                                                    by_cases w25 : u = 25
                                                    · skip
                                                      subst w25
                                                      refine r_tableIn 884 (off := 852) dL_law_32 (by decide) (by decide) (by decide) (by decide) ?_
                                                      exact lc_count g x Q b L zs hX hb hg hL i hi k sl hk hsl σ δ pg pn tr M I K
                                                    · skip
                                                      by_cases w26 : u = 26
                                                      · skip
                                                        subst w26
                                                        refine r_tableIn 907 (off := 875) dL_law_32 (by decide) (by decide) (by decide) (by decide) ?_
                                                        exact lc_digest g x Q b L zs hX hb hg hL i hi k sl hk hsl σ δ pg pn tr M I K
                                                      · skip
                                                        refine r_tableOut 921 dL_law_32 (by have q0 := lv_neT w0 (a := 0) (by decide); have q1 := lv_neT w1 (a := 1) (by decide); have q2 := lv_neT w2 (a := 2) (by decide); have q3 := lv_neT w3 (a := 3) (by decide); have q4 := lv_neT w4 (a := 4) (by decide); have q5 := lv_neT w5 (a := 5) (by decide); have q6 := lv_neT w6 (a := 6) (by decide); have q7 := lv_neT w7 (a := 7) (by decide); have q8 := lv_neT w8 (a := 8) (by decide); have q9 := lv_neT w9 (a := 9) (by decide); have q10 := lv_neT w10 (a := 10) (by decide); have q11 := lv_neT w11 (a := 11) (by decide); have q12 := lv_neT w12 (a := 12) (by decide); have q13 := lv_neT w13 (a := 13) (by decide); have q14 := lv_neT w14 (a := 14) (by decide); have q15 := lv_neT w15 (a := 15) (by decide); have q16 := lv_neT w16 (a := 16) (by decide); have q17 := lv_neT w17 (a := 17) (by decide); have q18 := lv_neT w18 (a := 18) (by decide); have q19 := lv_neT w19 (a := 19) (by decide); have q20 := lv_neT w20 (a := 20) (by decide); have q21 := lv_neT w21 (a := 21) (by decide); have q22 := lv_neT w22 (a := 22) (by decide); have q23 := lv_neT w23 (a := 23) (by decide); have q24 := lv_neT w24 (a := 24) (by decide); have q25 := lv_neT w25 (a := 25) (by decide); have q26 := lv_neT w26 (a := 26) (by decide); omega) (by decide) ?_
                                                        exact K M σ δ pg pn tr k sl I (by omega) (by omega) (by omega)
theorem lp_more {i L : Nat} (hi : i ≤ 2560) (hL : L ≤ 2560) (h : ¬ (Int32.ofNat L - 5 < nI i)) : i + 5 ≤ L := by
  have e : (Int32.ofNat L - 5).toInt = (L : Int) - 5 := by
    have a : (Int32.ofNat L).toInt = (L : Int) := nI_toInt (n := L) (by omega)
    rw [Int32.toInt_sub, a, show (5 : Int32).toInt = 5 from rfl, Int.bmod_eq_of_le (by omega) (by omega)]
  rw [Int32.lt_iff_toInt_lt, e, nI_toInt (show i < 2 ^ 31 by omega)] at h
  omega
set_option maxHeartbeats 4000000 in
set_option maxRecDepth 100000 in
theorem lc_loop (g : Gx) (x : Cx) (Q : State → Prop) (b L : Nat) (zs : Nat → Int32) (hX : va_X b L zs x.2.2.2.1 x.2.2.2.1.heap) (hb : b < x.2.2.2.1.heap.size) (hg : b < g.1) (hL : L ≤ 2560) (KE : ∀ (M' : Mm) (k' sl' i' : Nat), k' ≤ 600000 → sl' ≤ 7302250 → Vj x g yL_law cL_law 4 (some .boolean) room_1 Q k' sl' M' 927 [(0, some (.ref b)), (1, some (.ref (g.1 + 0))), (2, some (.ref (g.1 + 44))), (3, some (.int (nI i')))] []) : ∀ (n i : Nat) (k sl : Nat) (σ : Ab) (δ : Dy) (pg : Rw) (pn tr : Nat) (M : Mm), i ≤ L → L + 1 - i < n → tr ≤ i → k ≤ 100 + 8 * i → sl ≤ 10000 + 24 * i → LI σ δ pg pn tr M → Vj x g yL_law cL_law 4 (some .boolean) room_1 Q k sl M 18 [(0, some (.ref b)), (1, some (.ref (g.1 + 0))), (2, some (.ref (g.1 + 44))), (3, some (.int (nI i)))] [] := by
  intro n
  induction n with
  | zero => intro i k sl σ δ pg pn tr M _ h; omega
  | succ n ih =>
    intro i k sl σ δ pg pn tr M hiL hn htr hk hsl I
    refine r_iload_n dL_law_18 rfl ?_
    refine r_aload_n dL_law_19 rfl ?_
    refine r_slen hX hb hg dL_law_20 ?_
    refine r_iconst (v := 5) dL_law_21 (by decide) ?_
    refine r_isub dL_law_22 ?_
    refine r_icmp_gt 927 dL_law_23 (by decide) (fun c23 => ?_) (fun c23 => ?_)
    · exact KE M k sl i (by omega) (by omega)
    · have hi : i + 5 ≤ L := lp_more (by omega) hL c23
      refine lc_sw g x Q b L zs hX hb hg hL i hi k sl (by omega) (by omega) σ δ pg pn tr M I (fun M' σ' δ' pg' pn' tr' k' sl' I' h1 h2 h3 => ?_) (by omega)
      refine r_iinc (w := nI (i + 5)) dL_law_921 rfl (nI_add i 5) rfl ?_
      refine r_goto 18 dL_law_924 (by decide) ?_
      exact r_lv (lvSc rfl (lvSc rfl (lvSc rfl (lvSc rfl lvS0)))) (ih (i + 5) k' sl' σ' δ' pg' pn' tr' M' (by omega) (by omega) (by omega) (by omega) (by omega) I')
