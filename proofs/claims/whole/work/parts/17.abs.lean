/-! what an image keeps: where spoons are, where they were seen, locks, dogs, who is paid, tenths, months, fees -/
abbrev Dy : Type := Rw × Rw × Rw × Rw × Rw × Rw × Int32 × Int32
def yp (δ : Dy) : Rw := δ.1
def ye (δ : Dy) : Rw := δ.2.1
def yl (δ : Dy) : Rw := δ.2.2.1
def yd (δ : Dy) : Rw := δ.2.2.2.1
def yq (δ : Dy) : Rw := δ.2.2.2.2.1
def yt (δ : Dy) : Rw := δ.2.2.2.2.2.1
def ym (δ : Dy) : Int32 := δ.2.2.2.2.2.2.1
def yf (δ : Dy) : Int32 := δ.2.2.2.2.2.2.2
def dyP (δ : Dy) (f : Rw) : Dy := (f, ye δ, yl δ, yd δ, yq δ, yt δ, ym δ, yf δ)
def dyE (δ : Dy) (f : Rw) : Dy := (yp δ, f, yl δ, yd δ, yq δ, yt δ, ym δ, yf δ)
def dyL (δ : Dy) (f : Rw) : Dy := (yp δ, ye δ, f, yd δ, yq δ, yt δ, ym δ, yf δ)
def dyD (δ : Dy) (f : Rw) : Dy := (yp δ, ye δ, yl δ, f, yq δ, yt δ, ym δ, yf δ)
def dyQ (δ : Dy) (f : Rw) : Dy := (yp δ, ye δ, yl δ, yd δ, f, yt δ, ym δ, yf δ)
def dyT (δ : Dy) (f : Rw) : Dy := (yp δ, ye δ, yl δ, yd δ, yq δ, f, ym δ, yf δ)
/-- what holds of it -/
def DW (σ : Ab) (δ : Dy) : Prop := (∀ h, h < 8 → 0 ≤ yl δ h) ∧ (∀ s, s < zS σ → hs8 (yp δ s)) ∧ (∀ h, h < 8 → b01 (yd δ h)) ∧ (∀ t, t < zN σ → b01 (yq δ t))
/-- the component's city c holds it -/
def CC (c : Nat) (M : Mm) (σ : Ab) (δ : Dy) : Prop := CD c M σ (yq δ) (yd δ) (yl δ) (yp δ) ∧ (∀ s, s < zS σ → mI M (c + 2) s = ye δ s) ∧ (∀ t, t < zN σ → mI M (c + 6) t = yt δ t) ∧ mI M c 6 = ym δ ∧ mI M c 7 = yf δ ∧ ∀ j, j < 8 → b01 (mI M (c + 4) j) ∧ b01 (mI M (c + 5) j)
/-- the component holds this city -/
def CA (σ : Ab) (δ : Dy) (M : Mm) : Prop := St M ∧ Wf σ ∧ DW σ δ ∧ CV1 σ M ∧ CC 11 M σ δ
/-- the reference holds this city -/
def RA (σ : Ab) (δ : Dy) (M : Mm) : Prop := St M ∧ Wf σ ∧ DW σ δ ∧ RV1 σ M ∧ (∀ s, s < zS σ → mI M 50 (4 * s + 2) = yp δ s ∧ mI M 50 (4 * s + 3) = ye δ s) ∧ (∀ h, h < 8 → mI M 49 h = yl δ h) ∧ (∀ h, h < 8 → mI M 44 13 >>> (nI h &&& 31) &&& 1 = yd δ h) ∧ (∀ t, t < zN σ → mI M 44 8 >>> (nI t &&& 31) &&& 1 = yq δ t) ∧ (∀ t, t < zN σ → mI M 48 t = yt δ t) ∧ mI M 44 11 = ym δ ∧ mI M 44 12 = yf δ
def okK (a : Nat) : Prop := a ≠ 0 ∧ ¬ (9 ≤ a ∧ a ≤ 17) ∧ (a < 36 ∨ (44 ≤ a ∧ a < 59))
theorem CA.fr {σ : Ab} {δ : Dy} {M M' : Mm} {is ls : List Nat} (h : CA σ δ M) (f : Fr is ls M M') (hi : ∀ a ∈ is, okK a) : CA σ δ M' := by
  obtain ⟨h1, h2, h3, h4, h5, h6, h7, h8, h9, h10⟩ := h
  have nn : ∀ a, 11 ≤ a → a ≤ 17 → a ∉ is := fun a u v q => (hi a q).2.1 ⟨by omega, v⟩
  refine ⟨h1.fr f, h2, h3, h4.fr h1 h2 f (fun a q => ⟨(hi a q).1, fun e => (hi a q).2.1 (by omega), fun e => (hi a q).2.1 (by omega), (hi a q).2.2⟩), ⟨?_, ?_, ?_, ?_⟩, ?_, ?_, ?_, ?_, ?_⟩
  · intro s hs; rw [f.2.1 _ (nn _ (by omega) (by omega))]; exact h5.1 s hs
  · intro s hs; rw [f.2.1 _ (nn _ (by omega) (by omega))]; exact h5.2.1 s hs
  · intro s hs; rw [f.2.1 _ (nn _ (by omega) (by omega))]; exact h5.2.2.1 s hs
  · intro s hs; rw [f.2.1 _ (nn _ (by omega) (by omega))]; exact h5.2.2.2 s hs
  · intro s hs; rw [f.2.1 _ (nn _ (by omega) (by omega))]; exact h6 s hs
  · intro s hs; rw [f.2.1 _ (nn _ (by omega) (by omega))]; exact h7 s hs
  · rw [f.2.1 _ (nn _ (by omega) (by omega))]; exact h8
  · rw [f.2.1 _ (nn _ (by omega) (by omega))]; exact h9
  · intro s hs; rw [f.2.1 _ (nn _ (by omega) (by omega)), f.2.1 _ (nn _ (by omega) (by omega))]; exact h10 s hs
theorem CC.copy {c d : Nat} {M M' : Mm} {σ : Ab} {δ : Dy} (w : Wf σ) (h : CC d M σ δ) (hc : ∀ k, 1 ≤ k → k ≤ 6 → cpR c d k M M' 8) (h6 : mI M' c 6 = mI M d 6) (h7 : mI M' c 7 = mI M d 7) : CC c M' σ δ := by
  obtain ⟨⟨a1, a2, a3, a4⟩, a5, a6, a7, a8, a9⟩ := h
  have w1 := w.1
  have w2 := w.2.1
  refine ⟨⟨fun s hs => ?_, fun s hs => ?_, fun s hs => ?_, fun s hs => ?_⟩, fun s hs => ?_, fun s hs => ?_, h6.trans a7, h7.trans a8, fun s hs => ?_⟩
  · rw [hc 1 (by decide) (by decide) s (by omega)]; exact a1 s hs
  · rw [hc 3 (by decide) (by decide) s (by omega)]; exact a2 s hs
  · rw [hc 4 (by decide) (by decide) s (by omega)]; exact a3 s hs
  · rw [hc 5 (by decide) (by decide) s (by omega)]; exact a4 s hs
  · rw [hc 2 (by decide) (by decide) s (by omega)]; exact a5 s hs
  · rw [hc 6 (by decide) (by decide) s (by omega)]; exact a6 s hs
  · rw [hc 4 (by decide) (by decide) s (by omega), hc 5 (by decide) (by decide) s (by omega)]; exact a9 s hs
/-! sums, months in a row -/
def sumF (f : Nat → Int32) : Nat → Int32
  | 0 => 0
  | n + 1 => sumF f n + f n
theorem sumF_congr {f h : Nat → Int32} : ∀ {n : Nat}, (∀ i, i < n → f i = h i) → sumF f n = sumF h n
  | 0, _ => rfl
  | n + 1, e => by rw [sumF, sumF, sumF_congr (fun i hi => e i (by omega)), e n (by omega)]
theorem passF_congr {σ : Ab} {pd dg lo : Rw} {cm cn : Nat → Prop} {ps : Rw} : ∀ {n : Nat}, (∀ t, t < n → (cm t ↔ cn t)) → passF σ pd dg lo cm ps n = passF σ pd dg lo cn ps n
  | 0, _ => rfl
  | n + 1, e => by
    have ih := passF_congr (σ := σ) (pd := pd) (dg := dg) (lo := lo) (ps := ps) (n := n) (fun t ht => e t (by omega))
    by_cases h : cm n
    · rw [passF_s1 h, passF_s1 ((e n (by omega)).mp h), ih]
    · rw [passF_s0 h, passF_s0 (fun q => h ((e n (by omega)).mpr q)), ih]
def allT : Nat → Prop := fun _ => True
theorem pass_all {σ : Ab} {pd dg lo : Rw} {ps : Rw} (w : Wf σ) : passF σ pd dg lo (fun t => ¬ nI t = -1) ps (zN σ) = passF σ pd dg lo allT ps (zN σ) := passF_congr (fun t ht => ⟨fun _ => trivial, fun _ => nI_ne_m1 (by have := w.1; omega)⟩)
noncomputable def itF (σ : Ab) (pd dg : Rw) : Nat → Rw → Rw → Rw × Rw
  | 0, ps, lo => (ps, lo)
  | n + 1, ps, lo => itF σ pd dg n (passF σ pd dg lo allT ps (zN σ)).2 (lapF lo)
theorem lapF_0 {lo : Rw} (h : ∀ j, j < 8 → 0 ≤ lo j) : ∀ j, j < 8 → 0 ≤ lapF lo j := by
  intro j hj
  have := h j hj
  simp only [lapF, hj, if_true]
  split
  · grind
  · decide
noncomputable def stF (σ : Ab) (pd dg : Rw) : Nat → Nat → Rw → Rw → Int32
  | 0, _, _, _ => -1
  | n + 1, k, ps, lo => by
    classical exact if (passF σ pd dg lo allT ps (zN σ)).1 = 0 then nI k else stF σ pd dg n (k + 1) (passF σ pd dg lo allT ps (zN σ)).2 (lapF lo)
theorem stF_1 {σ : Ab} {pd dg : Rw} {n k : Nat} {ps lo : Rw} (h : (passF σ pd dg lo allT ps (zN σ)).1 = 0) : stF σ pd dg (n + 1) k ps lo = nI k := by
  rw [stF]; exact if_pos h
theorem stF_0 {σ : Ab} {pd dg : Rw} {n k : Nat} {ps lo : Rw} (h : ¬ (passF σ pd dg lo allT ps (zN σ)).1 = 0) : stF σ pd dg (n + 1) k ps lo = stF σ pd dg n (k + 1) (passF σ pd dg lo allT ps (zN σ)).2 (lapF lo) := by
  rw [stF]; exact if_neg h
def thB (σ : Ab) (t : Int32) : Prop := 0 ≤ t ∧ t < nI (zN σ)
def spB (σ : Ab) (s : Int32) : Prop := 0 ≤ s ∧ s < nI (zS σ)
def hoB (h : Int32) : Prop := 0 ≤ h ∧ h < 8
theorem thB_ex {σ : Ab} (w : Wf σ) {t : Int32} (h : thB σ t) : ∃ j, j < zN σ ∧ t = nI j := ix_ex (by have := w.1; omega) h.1 h.2
theorem spB_ex {σ : Ab} (w : Wf σ) {t : Int32} (h : spB σ t) : ∃ j, j < zS σ ∧ t = nI j := ix_ex (by have := w.2.1; omega) h.1 h.2
theorem hoB_ex {t : Int32} (h : hoB t) : ∃ j, j < 8 ∧ t = nI j := ix_ex (n := 8) (by decide) h.1 h.2
theorem thB_in {σ : Ab} (w : Wf σ) {j : Nat} (h : j < zN σ) : thB σ (nI j) := by
  have := w.1
  exact ⟨nI_pos' (by omega), nI_lt h (by omega)⟩
theorem spB_in {σ : Ab} (w : Wf σ) {j : Nat} (h : j < zS σ) : spB σ (nI j) := by
  have := w.2.1
  exact ⟨nI_pos' (by omega), nI_lt h (by omega)⟩
theorem hoB_in {j : Nat} (h : j < 8) : hoB (nI j) := ⟨nI_pos' (by omega), nI_lt (b := 8) h (by decide)⟩
