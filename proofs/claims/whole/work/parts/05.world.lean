/-! the memory: how many cells, the shape of each, its ints, its longs, its references; cells are told by their numbers from the law's start on -/
abbrev Sh : Type := Nat ⊕ (Nat × Nat)
abbrev Mm : Type := Nat × (Nat → Sh) × (Nat → Nat → Int32) × (Nat → Nat → Int64) × (Nat → Nat → Option Nat)
def mN (M : Mm) : Nat := M.1
def mT (M : Mm) : Nat → Sh := M.2.1
def mI (M : Mm) : Nat → Nat → Int32 := M.2.2.1
def mL (M : Mm) : Nat → Nat → Int64 := M.2.2.2.1
def mR (M : Mm) : Nat → Nat → Option Nat := M.2.2.2.2
def sI (M : Mm) (a k : Nat) (v : Int32) : Mm := (M.1, M.2.1, va_up M.2.2.1 a (va_up (M.2.2.1 a) k v), M.2.2.2.1, M.2.2.2.2)
def sL (M : Mm) (a k : Nat) (v : Int64) : Mm := (M.1, M.2.1, M.2.2.1, va_up M.2.2.2.1 a (va_up (M.2.2.2.1 a) k v), M.2.2.2.2)
def sR (M : Mm) (a k : Nat) (v : Option Nat) : Mm := (M.1, M.2.1, M.2.2.1, M.2.2.2.1, va_up M.2.2.2.2 a (va_up (M.2.2.2.2 a) k v))
def aN (M : Mm) (sh : Sh) : Mm := (M.1 + 1, va_up M.2.1 M.1 sh, va_up M.2.2.1 M.1 (fun _ => 0), va_up M.2.2.2.1 M.1 (fun _ => 0), va_up M.2.2.2.2 M.1 (fun _ => none))
theorem mN_sI (M : Mm) (a k : Nat) (v : Int32) : mN (sI M a k v) = mN M := rfl
theorem mT_sI (M : Mm) (a k : Nat) (v : Int32) : mT (sI M a k v) = mT M := rfl
theorem mL_sI (M : Mm) (a k : Nat) (v : Int32) : mL (sI M a k v) = mL M := rfl
theorem mR_sI (M : Mm) (a k : Nat) (v : Int32) : mR (sI M a k v) = mR M := rfl
theorem mI_sI (M : Mm) (a k : Nat) (v : Int32) : mI (sI M a k v) a = va_up (mI M a) k v := by simp [mI, sI, va_up]
theorem mI_sI_ne {M : Mm} {a k b : Nat} {v : Int32} (h : b ≠ a) : mI (sI M a k v) b = mI M b := by simp [mI, sI, va_up, h]
theorem mN_sL (M : Mm) (a k : Nat) (v : Int64) : mN (sL M a k v) = mN M := rfl
theorem mT_sL (M : Mm) (a k : Nat) (v : Int64) : mT (sL M a k v) = mT M := rfl
theorem mI_sL (M : Mm) (a k : Nat) (v : Int64) : mI (sL M a k v) = mI M := rfl
theorem mR_sL (M : Mm) (a k : Nat) (v : Int64) : mR (sL M a k v) = mR M := rfl
theorem mL_sL (M : Mm) (a k : Nat) (v : Int64) : mL (sL M a k v) a = va_up (mL M a) k v := by simp [mL, sL, va_up]
theorem mL_sL_ne {M : Mm} {a k b : Nat} {v : Int64} (h : b ≠ a) : mL (sL M a k v) b = mL M b := by simp [mL, sL, va_up, h]
theorem mN_sR (M : Mm) (a k : Nat) (v : Option Nat) : mN (sR M a k v) = mN M := rfl
theorem mT_sR (M : Mm) (a k : Nat) (v : Option Nat) : mT (sR M a k v) = mT M := rfl
theorem mI_sR (M : Mm) (a k : Nat) (v : Option Nat) : mI (sR M a k v) = mI M := rfl
theorem mL_sR (M : Mm) (a k : Nat) (v : Option Nat) : mL (sR M a k v) = mL M := rfl
theorem mR_sR (M : Mm) (a k : Nat) (v : Option Nat) : mR (sR M a k v) a = va_up (mR M a) k v := by simp [mR, sR, va_up]
theorem mR_sR_ne {M : Mm} {a k b : Nat} {v : Option Nat} (h : b ≠ a) : mR (sR M a k v) b = mR M b := by simp [mR, sR, va_up, h]
theorem mN_aN (M : Mm) (sh : Sh) : mN (aN M sh) = mN M + 1 := rfl
theorem mT_aN (M : Mm) (sh : Sh) : mT (aN M sh) (mN M) = sh := by simp [mT, aN, mN, va_up]
theorem mT_aN_ne {M : Mm} {sh : Sh} {b : Nat} (h : b ≠ mN M) : mT (aN M sh) b = mT M b := by
  have h' : b ≠ M.1 := h
  simp [mT, aN, va_up, h']
theorem mI_aN (M : Mm) (sh : Sh) : mI (aN M sh) (mN M) = fun _ => 0 := by simp [mI, aN, mN, va_up]
theorem mI_aN_ne {M : Mm} {sh : Sh} {b : Nat} (h : b ≠ mN M) : mI (aN M sh) b = mI M b := by
  have h' : b ≠ M.1 := h
  simp [mI, aN, va_up, h']
theorem mL_aN (M : Mm) (sh : Sh) : mL (aN M sh) (mN M) = fun _ => 0 := by simp [mL, aN, mN, va_up]
theorem mL_aN_ne {M : Mm} {sh : Sh} {b : Nat} (h : b ≠ mN M) : mL (aN M sh) b = mL M b := by
  have h' : b ≠ M.1 := h
  simp [mL, aN, va_up, h']
theorem mR_aN (M : Mm) (sh : Sh) : mR (aN M sh) (mN M) = fun _ => none := by simp [mR, aN, mN, va_up]
theorem mR_aN_ne {M : Mm} {sh : Sh} {b : Nat} (h : b ≠ mN M) : mR (aN M sh) b = mR M b := by
  have h' : b ≠ M.1 := h
  simp [mR, aN, va_up, h']
/-- the fields of a kind of object: 0 an int, 1 a long, 2 a reference -/
def fkd : Nat → List Nat
  | 1 => [2, 2, 2, 2, 2, 2, 0, 0]
  | 4 => [2, 0]
  | 5 => [2, 2, 2, 2, 0, 0]
  | 8 => [2, 2, 2, 2, 2, 2, 2, 2, 2, 2, 2, 2, 0, 0, 0, 0, 0, 0]
  | 9 => [2, 0, 2, 0, 0, 0, 0, 2, 0, 2, 0, 0, 0, 0, 2, 2, 2, 2, 2, 2, 2, 0, 0, 0, 0, 0, 0, 0, 2, 2, 2, 1]
  | _ => [0, 0, 0]
def fval (z : Nat) (M : Mm) (a k d : Nat) : Value := match d with
  | 0 => .int (mI M a k)
  | 1 => .long (mL M a k)
  | _ => va_rf ((mR M a k).map (fun j => z + j))
def fldsF (z : Nat) (M : Mm) (a : Nat) : Nat → List Nat → List Value
  | _, [] => []
  | k, d :: ds => fval z M a k d :: fldsF z M a (k + 1) ds
theorem fldsF_get (z : Nat) (M : Mm) (a : Nat) : ∀ (ds : List Nat) (k j : Nat), (fldsF z M a k ds)[j]? = (ds[j]?).map (fun d => fval z M a (k + j) d)
  | [], k, j => by simp [fldsF]
  | d :: ds, k, 0 => by simp [fldsF]
  | d :: ds, k, j + 1 => by
    show (fldsF z M a (k + 1) ds)[j]? = _
    rw [fldsF_get z M a ds (k + 1) j, List.getElem?_cons_succ, show k + 1 + j = k + (j + 1) by omega]
def flds (z : Nat) (M : Mm) (a ci : Nat) : List Value := fldsF z M a 0 (fkd ci)
theorem flds_get (z : Nat) (M : Mm) (a ci j : Nat) : (flds z M a ci)[j]? = ((fkd ci)[j]?).map (fun d => fval z M a j d) := by
  rw [flds, fldsF_get, Nat.zero_add]
abbrev Gx : Type := Nat × va_G × ClassId × ClassId × ClassId × ClassId
def cel (g : Gx) (M : Mm) (a : Nat) : va_E := match mT M a with
  | .inl ci => .inr (ci, flds g.1 M a ci)
  | .inr (0, n) => .inl (g.2.2.1, n, .inl (mI M a))
  | .inr (1, n) => .inl (g.2.2.2.1, n, .inr (.inl (mL M a)))
  | .inr (2, n) => .inl (g.2.2.2.2.1, n, .inl (mI M a))
  | .inr (_, n) => .inl (g.2.2.2.2.2, n, .inr (.inr (.inr (.inr (fun j => (mR M a j).map (fun j => g.1 + j))))))
def wl (g : Gx) (M : Mm) : va_W := (List.range (mN M)).map fun a => (g.1 + a, cel g M a)
theorem wl_len (g : Gx) (M : Mm) : (wl g M).length = mN M := by simp [wl]
theorem wl_get (g : Gx) (M : Mm) (a : Nat) : (wl g M)[a]? = if a < mN M then some (g.1 + a, cel g M a) else none := by
  by_cases h : a < mN M <;> simp [wl, h]
theorem wl_at {g : Gx} {M : Mm} {a : Nat} (h : a < mN M) : (wl g M)[a]? = some (g.1 + a, cel g M a) := by rw [wl_get, if_pos h]
theorem flds_congr {z : Nat} {M M' : Mm} {a : Nat} (hI : mI M' a = mI M a) (hL : mL M' a = mL M a) (hR : mR M' a = mR M a) (ci : Nat) : flds z M' a ci = flds z M a ci := by
  apply List.ext_getElem?
  intro j
  rw [flds_get, flds_get]
  have : (fun d => fval z M' a j d) = (fun d => fval z M a j d) := by
    funext d
    match d with
    | 0 => simp only [fval, hI]
    | 1 => simp only [fval, hL]
    | _ + 2 => simp only [fval, hR]
  rw [this]
theorem cel_congr {g : Gx} {M M' : Mm} {a : Nat} (hT : mT M' a = mT M a) (hI : mI M' a = mI M a) (hL : mL M' a = mL M a) (hR : mR M' a = mR M a) : cel g M' a = cel g M a := by
  unfold cel
  rw [hT, hI, hL, hR]
  split
  · rw [flds_congr hI hL hR]
  · rfl
  · rfl
  · rfl
  · rfl
theorem wl_set {g : Gx} {M M' : Mm} {a : Nat} {e : va_E} (hN : mN M' = mN M) (he : cel g M' a = e) (ho : ∀ b, b ≠ a → cel g M' b = cel g M b) : (wl g M).set a (g.1 + a, e) = wl g M' := by
  apply List.ext_getElem?
  intro j
  rw [List.getElem?_set, wl_get, wl_get, wl_len, hN]
  by_cases h : a = j
  · subst h
    by_cases h2 : a < mN M
    · simp [h2, he]
    · simp [h2]
  · rw [if_neg h, ho j (fun q => h q.symm)]
theorem wl_push (g : Gx) (M : Mm) (sh : Sh) : wl g (aN M sh) = wl g M ++ [(g.1 + mN M, cel g (aN M sh) (mN M))] := by
  apply List.ext_getElem?
  intro j
  rw [wl_get, mN_aN]
  by_cases h : j < mN M
  · rw [List.getElem?_append_left (by rw [wl_len]; exact h), wl_at h, if_pos (by omega), cel_congr (mT_aN_ne (by omega)) (mI_aN_ne (by omega)) (mL_aN_ne (by omega)) (mR_aN_ne (by omega))]
  · rw [List.getElem?_append_right (by rw [wl_len]; omega), wl_len]
    by_cases h2 : j = mN M
    · subst h2
      simp
    · rw [if_neg (by omega), List.getElem?_eq_none (by simp; omega)]
theorem wl_D (g : Gx) (M : Mm) : va_D (fun q => g.1 ≤ q) (wl g M) := by
  refine ⟨fun i j p q hi hj hpq => ?_, fun k q hk => ?_⟩
  · rw [wl_get] at hi hj
    split at hi
    · split at hj
      · cases hi; cases hj
        have : g.1 + i = g.1 + j := hpq
        omega
      · cases hj
    · cases hi
  · rw [wl_get] at hk
    split at hk
    · cases hk
      exact Nat.le_add_right _ _
    · cases hk
theorem flds_setI {z : Nat} {M : Mm} {a k ci : Nat} {v : Int32} (hk : (fkd ci)[k]? = some 0) : (flds z M a ci).set k (.int v) = flds z (sI M a k v) a ci := by
  apply List.ext_getElem?
  intro j
  rw [List.getElem?_set, flds_get, flds_get]
  have hl : k < (flds z M a ci).length := by
    rcases Nat.lt_or_ge k (flds z M a ci).length with h | h
    · exact h
    · have h2 := flds_get z M a ci k
      rw [List.getElem?_eq_none h, hk] at h2
      cases h2
  by_cases h : k = j
  · subst h
    rw [if_pos rfl, if_pos hl, hk]
    simp [fval, mI_sI, va_up]
  · rw [if_neg h]
    have : (fun d => fval z (sI M a k v) a j d) = (fun d => fval z M a j d) := by
      funext d
      match d with
      | 0 => simp only [fval, mI_sI, va_up_ne _ _ (fun q => h q.symm)]
      | 1 => rfl
      | _ + 2 => rfl
    rw [this]
theorem flds_setL {z : Nat} {M : Mm} {a k ci : Nat} {v : Int64} (hk : (fkd ci)[k]? = some 1) : (flds z M a ci).set k (.long v) = flds z (sL M a k v) a ci := by
  apply List.ext_getElem?
  intro j
  rw [List.getElem?_set, flds_get, flds_get]
  have hl : k < (flds z M a ci).length := by
    rcases Nat.lt_or_ge k (flds z M a ci).length with h | h
    · exact h
    · have h2 := flds_get z M a ci k
      rw [List.getElem?_eq_none h, hk] at h2
      cases h2
  by_cases h : k = j
  · subst h
    rw [if_pos rfl, if_pos hl, hk]
    simp [fval, mL_sL, va_up]
  · rw [if_neg h]
    have : (fun d => fval z (sL M a k v) a j d) = (fun d => fval z M a j d) := by
      funext d
      match d with
      | 0 => rfl
      | 1 => simp only [fval, mL_sL, va_up_ne _ _ (fun q => h q.symm)]
      | _ + 2 => rfl
    rw [this]
theorem flds_setR {z : Nat} {M : Mm} {a k ci : Nat} {v : Nat} (hk : (fkd ci)[k]? = some 2) : (flds z M a ci).set k (.ref (z + v)) = flds z (sR M a k (some v)) a ci := by
  apply List.ext_getElem?
  intro j
  rw [List.getElem?_set, flds_get, flds_get]
  have hl : k < (flds z M a ci).length := by
    rcases Nat.lt_or_ge k (flds z M a ci).length with h | h
    · exact h
    · have h2 := flds_get z M a ci k
      rw [List.getElem?_eq_none h, hk] at h2
      cases h2
  by_cases h : k = j
  · subst h
    rw [if_pos rfl, if_pos hl, hk]
    simp [fval, mR_sR, va_up, va_rf]
  · rw [if_neg h]
    have : (fun d => fval z (sR M a k (some v)) a j d) = (fun d => fval z M a j d) := by
      funext d
      match d with
      | 0 => rfl
      | 1 => rfl
      | _ + 2 => simp only [fval, mR_sR, va_up_ne _ _ (fun q => h q.symm)]
    rw [this]
theorem wl_setFI {g : Gx} {M : Mm} {a k ci : Nat} {v : Int32} (hT : mT M a = .inl ci) (hk : (fkd ci)[k]? = some 0) : (wl g M).set a (g.1 + a, .inr (ci, (flds g.1 M a ci).set k (.int v))) = wl g (sI M a k v) := by
  refine wl_set rfl ?_ (fun b hb => cel_congr rfl (mI_sI_ne hb) rfl rfl)
  unfold cel
  rw [mT_sI, hT, flds_setI hk]
theorem wl_setFL {g : Gx} {M : Mm} {a k ci : Nat} {v : Int64} (hT : mT M a = .inl ci) (hk : (fkd ci)[k]? = some 1) : (wl g M).set a (g.1 + a, .inr (ci, (flds g.1 M a ci).set k (.long v))) = wl g (sL M a k v) := by
  refine wl_set rfl ?_ (fun b hb => cel_congr rfl rfl (mL_sL_ne hb) rfl)
  unfold cel
  rw [mT_sL, hT, flds_setL hk]
theorem wl_setFR {g : Gx} {M : Mm} {a k ci v : Nat} (hT : mT M a = .inl ci) (hk : (fkd ci)[k]? = some 2) : (wl g M).set a (g.1 + a, .inr (ci, (flds g.1 M a ci).set k (.ref (g.1 + v)))) = wl g (sR M a k (some v)) := by
  refine wl_set rfl ?_ (fun b hb => cel_congr rfl rfl rfl (mR_sR_ne hb))
  unfold cel
  rw [mT_sR, hT, flds_setR hk]
theorem wl_setAI {g : Gx} {M : Mm} {a k n : Nat} {v : Int32} (hT : mT M a = .inr (0, n)) : (wl g M).set a (g.1 + a, .inl (g.2.2.1, n, .inl (upd (mI M a) k v))) = wl g (sI M a k v) := by
  refine wl_set rfl ?_ (fun b hb => cel_congr rfl (mI_sI_ne hb) rfl rfl)
  unfold cel
  rw [mT_sI, hT, mI_sI]
  rfl
theorem wl_setAZ {g : Gx} {M : Mm} {a k n : Nat} {v : Int32} (hT : mT M a = .inr (2, n)) : (wl g M).set a (g.1 + a, .inl (g.2.2.2.2.1, n, .inl (upd (mI M a) k v))) = wl g (sI M a k v) := by
  refine wl_set rfl ?_ (fun b hb => cel_congr rfl (mI_sI_ne hb) rfl rfl)
  unfold cel
  rw [mT_sI, hT, mI_sI]
  rfl
theorem wl_setAL {g : Gx} {M : Mm} {a k n : Nat} {v : Int64} (hT : mT M a = .inr (1, n)) : (wl g M).set a (g.1 + a, .inl (g.2.2.2.1, n, .inr (.inl (vp_updL (mL M a) k v)))) = wl g (sL M a k v) := by
  refine wl_set rfl ?_ (fun b hb => cel_congr rfl rfl (mL_sL_ne hb) rfl)
  unfold cel
  rw [mT_sL, hT, mL_sL]
  rfl
theorem wl_setAR {g : Gx} {M : Mm} {a k n v : Nat} (hT : mT M a = .inr (3, n)) : (wl g M).set a (g.1 + a, .inl (g.2.2.2.2.2, n, .inr (.inr (.inr (.inr (va_up (fun j => (mR M a j).map (fun j => g.1 + j)) k (some (g.1 + v)))))))) = wl g (sR M a k (some v)) := by
  refine wl_set rfl ?_ (fun b hb => cel_congr rfl rfl rfl (mR_sR_ne hb))
  unfold cel
  rw [mT_sR, hT, mR_sR]
  have : (fun j => (va_up (mR M a) k (some v) j).map (fun j => g.1 + j)) = va_up (fun j => (mR M a j).map (fun j => g.1 + j)) k (some (g.1 + v)) := by
    funext j
    by_cases h : j = k <;> simp [va_up, h]
  rw [← this]
  rfl
theorem cel_obj {g : Gx} {M : Mm} {a ci : Nat} (hT : mT M a = .inl ci) : cel g M a = .inr (ci, flds g.1 M a ci) := by unfold cel; rw [hT]
theorem cel_I {g : Gx} {M : Mm} {a n : Nat} (hT : mT M a = .inr (0, n)) : cel g M a = .inl (g.2.2.1, n, .inl (mI M a)) := by unfold cel; rw [hT]; rfl
theorem cel_L {g : Gx} {M : Mm} {a n : Nat} (hT : mT M a = .inr (1, n)) : cel g M a = .inl (g.2.2.2.1, n, .inr (.inl (mL M a))) := by unfold cel; rw [hT]; rfl
theorem cel_Z {g : Gx} {M : Mm} {a n : Nat} (hT : mT M a = .inr (2, n)) : cel g M a = .inl (g.2.2.2.2.1, n, .inl (mI M a)) := by unfold cel; rw [hT]; rfl
theorem cel_R {g : Gx} {M : Mm} {a n : Nat} (hT : mT M a = .inr (3, n)) : cel g M a = .inl (g.2.2.2.2.2, n, .inr (.inr (.inr (.inr (fun j => (mR M a j).map (fun j => g.1 + j)))))) := by unfold cel; rw [hT]; rfl
