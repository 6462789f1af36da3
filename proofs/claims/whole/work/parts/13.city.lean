def isC (c : Nat) : Prop := c = 11 ∨ c = 18 ∨ c = 25
theorem St.cT {M : Mm} {c : Nat} (h : St M) (hc : isC c) : mT M c = .inl 1 := by rcases hc with e | e | e <;> rw [e] <;> exact h.T _ rfl
theorem St.cl {M : Mm} {c : Nat} (h : St M) (hc : isC c) (k : Nat) (hk : k < 7) : c + k < mN M := by rcases hc with e | e | e <;> rw [e] <;> exact h.lt (by omega)
theorem St.cl0 {M : Mm} {c : Nat} (h : St M) (hc : isC c) : c < mN M := h.cl hc 0 (by decide)
theorem St.cR0 {M : Mm} {c : Nat} (h : St M) (hc : isC c) : mR M c 0 = some (c + 1) := by rcases hc with e | e | e <;> rw [e] <;> exact h.R _ _ rfl
theorem St.cA0 {M : Mm} {c : Nat} (h : St M) (hc : isC c) : mT M (c + 1) = .inr (0, 8) := by rcases hc with e | e | e <;> rw [e] <;> exact h.T _ rfl
theorem St.cR1 {M : Mm} {c : Nat} (h : St M) (hc : isC c) : mR M c 1 = some (c + 2) := by rcases hc with e | e | e <;> rw [e] <;> exact h.R _ _ rfl
theorem St.cA1 {M : Mm} {c : Nat} (h : St M) (hc : isC c) : mT M (c + 2) = .inr (0, 8) := by rcases hc with e | e | e <;> rw [e] <;> exact h.T _ rfl
theorem St.cR2 {M : Mm} {c : Nat} (h : St M) (hc : isC c) : mR M c 2 = some (c + 3) := by rcases hc with e | e | e <;> rw [e] <;> exact h.R _ _ rfl
theorem St.cA2 {M : Mm} {c : Nat} (h : St M) (hc : isC c) : mT M (c + 3) = .inr (0, 8) := by rcases hc with e | e | e <;> rw [e] <;> exact h.T _ rfl
theorem St.cR3 {M : Mm} {c : Nat} (h : St M) (hc : isC c) : mR M c 3 = some (c + 4) := by rcases hc with e | e | e <;> rw [e] <;> exact h.R _ _ rfl
theorem St.cA3 {M : Mm} {c : Nat} (h : St M) (hc : isC c) : mT M (c + 4) = .inr (2, 8) := by rcases hc with e | e | e <;> rw [e] <;> exact h.T _ rfl
theorem St.cR4 {M : Mm} {c : Nat} (h : St M) (hc : isC c) : mR M c 4 = some (c + 5) := by rcases hc with e | e | e <;> rw [e] <;> exact h.R _ _ rfl
theorem St.cA4 {M : Mm} {c : Nat} (h : St M) (hc : isC c) : mT M (c + 5) = .inr (2, 8) := by rcases hc with e | e | e <;> rw [e] <;> exact h.T _ rfl
theorem St.cR5 {M : Mm} {c : Nat} (h : St M) (hc : isC c) : mR M c 5 = some (c + 6) := by rcases hc with e | e | e <;> rw [e] <;> exact h.R _ _ rfl
theorem St.cA5 {M : Mm} {c : Nat} (h : St M) (hc : isC c) : mT M (c + 6) = .inr (0, 8) := by rcases hc with e | e | e <;> rw [e] <;> exact h.T _ rfl
theorem lp_lt {v b : Int32} {i n : Nat} (hv : v = nI i) (hb : b = nI n) (h : ¬ b ≤ v) (hi : i ≤ n) (hn : n < 2 ^ 31) : i < n := by
  rcases Nat.lt_or_ge i n with q | q
  · exact q
  · exfalso
    apply h
    rw [hv, hb]
    exact nI_le q (by omega)
theorem lp_ge {v b : Int32} {i n : Nat} (hv : v = nI i) (hb : b = nI n) (h : b ≤ v) (hi : i ≤ n) (hn : n < 2 ^ 31) : i = n := by
  rw [hv, hb] at h
  have := (nI_leI hn (by omega)).mp h
  omega
theorem nI_inc {v : Int32} {i : Nat} (hv : v = nI i) : v + Int32.ofInt 1 = nI (i + 1) := by rw [hv]; exact nI_1 i
/-- what of a city months change and ask: where the spoons are, locks, dogs, who is paid -/
def CD (c : Nat) (M : Mm) (σ : Ab) (pd dg lo ps : Rw) : Prop := (∀ s, s < zS σ → mI M (c + 1) s = ps s) ∧ (∀ h, h < 8 → mI M (c + 3) h = lo h) ∧ (∀ h, h < 8 → mI M (c + 4) h = dg h ∧ (dg h = 0 ∨ dg h = 1)) ∧ (∀ t, t < zN σ → mI M (c + 5) t = pd t ∧ (pd t = 0 ∨ pd t = 1))
def RD (M : Mm) (σ : Ab) (dg lo ps : Rw) : Prop := (∀ s, s < zS σ → mI M 51 s = ps s) ∧ (∀ h, h < 8 → mI M 52 h = lo h) ∧ (∀ h, h < 8 → mI M 44 13 >>> (nI h &&& 31) &&& 1 = dg h)
theorem max0 {v : Int32} (h : 0 ≤ v) : (if (0 : Int32) < v - 1 then v - 1 else 0) = (if 0 < v then v - 1 else 0) := by grind
theorem va_up_if {α : Type} (f : Nat → α) (k : Nat) (v : α) (j : Nat) : va_up f k v j = if j = k then v else f j := rfl
theorem isC.ne {c : Nat} (h : isC c) : 11 ≤ c ∧ c ≤ 25 := by rcases h with e | e | e <;> rw [e] <;> decide
def rmX1_lapseLocks : Room := { frames := 1, cells := 0, slots := 0, locals := 21 }
set_option maxHeartbeats 4000000 in
set_option maxRecDepth 100000 in
theorem lp_lapse (g : Gx) (x : Cx) (M : Mm) (c : Nat) (hc : isC c) (hs : St M) (lo : Rw) (hlo : ∀ h, h < 8 → mI M (c + 3) h = lo h) (hlo0 : ∀ h, h < 8 → 0 ≤ lo h) : ∀ (n : Nat) (i : Nat) (v : Int32) (M1 : Mm), i ≤ 8 → 8 - i < n → v = nI i → Fr [c + 3] [] M M1 → (∀ j, j < i → mI M1 (c + 3) j = lapF lo j) → (∀ j, i ≤ j → j < 8 → mI M1 (c + 3) j = lo j) → Vj x g yX1_lapseLocks cX1_lapseLocks 2 none rmX1_lapseLocks (Qm x g rmX1_lapseLocks.cells rmX1_lapseLocks.slots (pV fun M' => Fr [c + 3] [] M M' ∧ ∀ h, h < 8 → mI M' (c + 3) h = lapF lo h)) 0 0 M1 2 [(0, some (.ref (g.1 + c))), (1, some (.int v))] [] := by
  intro n
  induction n with
  | zero => intro i v M1 hi8 hn hv hF h1 h2; omega
  | succ n ih =>
    intro i v M1 hi8 hn hv hF h1 h2
    have hs1 := hs.fr hF
    refine r_iload_n dX1_lapseLocks_2 rfl ?_
    refine r_bipush (v := 8) dX1_lapseLocks_3 (by decide) ?_
    refine r_icmp_ge 32 dX1_lapseLocks_5 (by decide) (fun c5 => ?_) (fun c5 => ?_)
    · skip
      exact r_ret dX1_lapseLocks_32 ⟨rfl, hF, fun h hh => h1 h (by have := lp_ge (n := 8) hv rfl c5 hi8 (by decide); omega)⟩
    · skip
      have hi : i < 8 := lp_lt (n := 8) hv rfl c5 hi8 (by decide)
      refine r_aload_n dX1_lapseLocks_8 rfl ?_
      refine r_getR flX1_18_1 rfl (hs1.cl0 hc) (hs1.cT hc) (hs1.cR2 hc) dX1_lapseLocks_9 ?_
      refine r_iload_n dX1_lapseLocks_12 rfl ?_
      refine r_iconst (v := 0) dX1_lapseLocks_13 (by decide) ?_
      refine r_aload_n dX1_lapseLocks_14 rfl ?_
      refine r_getR flX1_18_1 rfl (hs1.cl0 hc) (hs1.cT hc) (hs1.cR2 hc) dX1_lapseLocks_15 ?_
      refine r_iload_n dX1_lapseLocks_18 rfl ?_
      refine r_ial (hs1.cA2 hc) (hs1.cl hc 3 (by decide)) (ix_of hv hi (by decide)) dX1_lapseLocks_19 ?_
      refine r_iconst (v := 1) dX1_lapseLocks_20 (by decide) ?_
      refine r_isub dX1_lapseLocks_21 ?_
      refine r_max tw476 tw477 tw63 tw478 (Nat.le_of_ble_eq_true rfl) (Nat.le_of_ble_eq_true rfl) (Nat.le_of_ble_eq_true rfl) (Nat.le_of_ble_eq_true rfl) dX1_lapseLocks_22 ?_
      refine r_ias (hs1.cA2 hc) (hs1.cl hc 3 (by decide)) (ix_of hv hi (by decide)) dX1_lapseLocks_25 ?_
      refine r_iinc dX1_lapseLocks_26 rfl rfl rfl ?_
      refine r_goto 2 dX1_lapseLocks_29 (by decide) ?_
      refine r_lv (lvSc rfl (lvSc rfl lvS0)) (ih (i + 1) _ _ (by omega) (by omega) (nI_inc hv) (hF.sI (by simp)) (fun j hj => ?_) (fun j h3 h4 => ?_))
      · rw [mI_sI, va_up_if]
        by_cases e : j = i
        · rw [if_pos e, e, h2 i (by omega) hi, max0 (hlo0 i hi)]
          simp [lapF, hi]
        · rw [if_neg e]; exact h1 j (by omega)
      · rw [mI_sI, va_up_ne _ _ (by omega)]
        exact h2 j (by omega) h4
set_option maxHeartbeats 4000000 in
set_option maxRecDepth 100000 in
theorem kX1_lapseLocks (g : Gx) (M : Mm) (c : Nat) (hc : isC c) (hs : St M) (lo : Rw) (hlo : ∀ h, h < 8 → mI M (c + 3) h = lo h) (hlo0 : ∀ h, h < 8 → 0 ≤ lo h) : Ct g yX1_lapseLocks cX1_lapseLocks 2 none rmX1_lapseLocks [.ref (g.1 + c)] M (pV fun M' => Fr [c + 3] [] M M' ∧ ∀ h, h < 8 → mI M' (c + 3) h = lapF lo h) := by
  refine Ct.of rfl (Nat.le_of_ble_eq_true rfl) (fun x => ?_)
  refine r_iconst (v := 0) dX1_lapseLocks_0 (by decide) ?_
  refine r_istore_n dX1_lapseLocks_1 (by decide) rfl ?_
  exact r_lv (lvSc rfl (lvSc rfl lvS0)) (lp_lapse g x M c hc hs lo hlo hlo0 9 0 0 M (by omega) (by omega) rfl (Fr.rf _ _ _) (fun j hj => by omega) (fun j h1 h2 => hlo j h2))
