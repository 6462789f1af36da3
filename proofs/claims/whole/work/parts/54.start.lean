/-! all owe and are owed the same; the two counts of fewest agree -/
theorem sumF_sub {f h : Nat → Int32} : ∀ n, sumF (fun i => f i - h i) n = sumF f n - sumF h n
  | 0 => by show (0 : Int32) = 0 - 0; decide
  | n + 1 => by rw [sumF, sumF, sumF, sumF_sub n]; grind
theorem sumF_swap {f : Nat → Nat → Int32} (m : Nat) : ∀ n, sumF (fun i => sumF (fun j => f i j) n) m = sumF (fun j => sumF (fun i => f i j) m) n
  | 0 => by
    show sumF (fun _ => 0) m = 0
    induction m with
    | zero => rfl
    | succ m ih => rw [sumF, ih]; rfl
  | n + 1 => by
    rw [sumF, ← sumF_swap m n, ← sumF_add]
    rfl
theorem one_hot {a : Nat} {v : Int32} (ha : a < 8) : ∀ n, n ≤ 8 → sumF (fun h => if nI a = nI h then v else 0) n = if a < n then v else 0
  | 0, _ => by rw [if_neg (by omega)]; rfl
  | n + 1, hn => by
    rw [sumF, one_hot ha n (by omega)]
    by_cases e : a = n
    · subst e
      rw [if_neg (by omega), if_pos rfl, if_pos (by omega)]
      exact Int32.zero_add _
    · rw [if_neg (fun q => e ((nI_eq (by omega) (by omega)).mp q))]
      by_cases q : a < n
      · rw [if_pos q, if_pos (by omega)]; exact Int32.add_zero _
      · rw [if_neg q, if_neg (by omega)]; rfl
theorem net_0 {σ : Ab} {δ : Dy} (w : Wf σ) (dw : DW σ δ) : nsF (netF σ δ) 255 = 0 := by
  have e1 : nsF (netF σ δ) 255 = sumF (fun h => netF σ δ h) 8 := by
    unfold nsF
    apply sumF_congr
    intro h hh
    have : (255 : Nat).testBit h = true := by
      rcases (show h = 0 ∨ h = 1 ∨ h = 2 ∨ h = 3 ∨ h = 4 ∨ h = 5 ∨ h = 6 ∨ h = 7 by omega) with e | e | e | e | e | e | e | e <;> subst e <;> decide
    rw [if_pos this]
  rw [e1]
  show sumF (fun h => sumF (fun s => (if zo σ s = nI h then zw σ s else 0) - (if yp δ s = nI h then zw σ s else 0)) (zS σ)) 8 = 0
  rw [sumF_swap]
  have e2 : ∀ s, s < zS σ → sumF (fun h => (if zo σ s = nI h then zw σ s else 0) - (if yp δ s = nI h then zw σ s else 0)) 8 = (fun _ => (0 : Int32)) s := by
    intro s hs
    obtain ⟨a, ha, ea⟩ := (w.2.2.2 s hs).2.2
    obtain ⟨b, hb, eb⟩ := dw.2.1 s hs
    rw [sumF_sub, ea, eb, one_hot ha 8 (by omega), one_hot hb 8 (by omega), if_pos ha, if_pos hb]
    grind
  rw [sumF_congr e2]
  induction zS σ with
  | zero => rfl
  | succ m ih => rw [sumF, ih]; rfl
theorem few_eq {σ : Ab} {δ : Dy} {a b : Int32} (w : Wf σ) (dw : DW σ δ) (h : fewP σ δ a) (k : fewQ σ δ b) : a = b := by
  obtain ⟨f, F, ea⟩ := h
  obtain ⟨m, G, eb⟩ := k
  rw [ea, eb, few_255 F G (net_0 w dw)]
  unfold gv
  rw [← nI_1]
  show _ = 8 - (nI (f 255) + 1 - 1)
  grind
/-! the start: no thieves, no spoons -/
def σ0 : Ab := (0, 0, fun _ => 0, fun _ => 0, fun _ => 0, fun _ => 0, fun _ => 0, fun _ => 0)
def δ0 : Dy := (fun _ => 0, fun _ => 0, fun _ => 0, fun _ => 0, fun _ => 0, fun _ => 0, 0, 0)
