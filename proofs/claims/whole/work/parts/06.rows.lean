/-! words that a call may hand on -/
def TB : List Cond := lw_tbl.filter goodWord
theorem tb_of {w : Cond} (h : w ∈ lw_tbl) (hg : goodWord w = true) : w ∈ TB := List.mem_filter.mpr ⟨h, hg⟩
theorem tb_lw {w : Cond} (h : w ∈ TB) : w ∈ lw_tbl := (List.mem_filter.mp h).1
theorem tb_gd {w : Cond} (h : w ∈ TB) : (w.onTables && w.keeps) = true ∨ ∃ ty, w = .arrayClass ty := good_of_word (List.mem_filter.mp h).2
theorem tb_in {w : Cond} (h : w ∈ TB) : GoodIn TB (w :: TB) := fun v hv => (List.mem_cons.mp hv).elim (fun e => by rw [e]; exact ⟨h, tb_gd h⟩) (fun hv => ⟨hv, tb_gd hv⟩)
theorem tb_app {ws : List Cond} {w : Cond} (hw : ∀ v ∈ ws, v ∈ TB) (h : w ∈ TB) : GoodIn TB (ws ++ (w :: TB)) := fun v hv => (List.mem_append.mp hv).elim (fun hv => ⟨hw v hv, tb_gd (hw v hv)⟩) (tb_in h v)
/-! what a machine knows of the kinds of things, through all the law -/
abbrev tys (g : Gx) : List (ClassId × FieldType) := [(g.2.2.1, .int), (g.2.2.2.1, .long), (g.2.2.2.2.1, .boolean), (g.2.2.2.2.2, .object RX7)]
def caP : List (String × String) := [(RX6, RX7), (RX0, RX7), (RX2, RX7), (RX3, RX7), (RX3, RX6)]
def ncP : List (String × String) := [(RX7, RX6), (RX0, RX6), (RX2, RX6), (RX7, RX0), (RX6, RX0), (RX2, RX0), (RX3, RX0), (RX7, RX2), (RX6, RX2), (RX0, RX2), (RX3, RX2), (RX7, RX3), (RX6, RX3), (RX0, RX3), (RX2, RX3)]
def Ev (g : Gx) (U : State) : Prop := va_K g.2.1 vwCl (tys g) U ∧ (va_Nw (.methodLinkNest RX8 11 yX4_init RX8) U ∧ va_Nw (.methodLinkNest RX8 18 yX5_init RX8) U ∧ va_Nw (.methodLinkNest RX8 38 yX1_init RX8) U ∧ va_Nw (.methodLinkNest RX5 62 yX8_isHouse RX8) U) ∧ va_AO RX7 U ∧ (∀ q ∈ caP, va_Nw (.castable q.1 q.2) U) ∧ (∀ q ∈ ncP, va_Nc q.1 q.2 U)
theorem Ev.warm {g : Gx} {s U : State} (hW : s.WarmedH U.vm) (h : Ev g s) : Ev g U :=
  ⟨va_K.moved hW.alike h.1, ⟨va_Nw.warmM hW h.2.1.1, va_Nw.warmM hW h.2.1.2.1, va_Nw.warmM hW h.2.1.2.2.1, va_Nw.warmM hW h.2.1.2.2.2⟩, va_AO.moved hW.alike h.2.2.1, fun q hq => va_Nw.warmC hW (h.2.2.2.1 q hq), fun q hq => va_Nc.moved hW.alike (h.2.2.2.2 q hq)⟩
theorem Ev.same {g : Gx} {s U : State} (hvm : s.vm = U.vm) (h : Ev g s) : Ev g U :=
  ⟨va_K.moved (by rw [hvm]; exact Vm.Alike.refl _) h.1, ⟨va_Nw.same rfl hvm h.2.1.1, va_Nw.same rfl hvm h.2.1.2.1, va_Nw.same rfl hvm h.2.1.2.2.1, va_Nw.same rfl hvm h.2.1.2.2.2⟩, va_AO.moved (by rw [hvm]; exact Vm.Alike.refl _) h.2.2.1, fun q hq => va_Nw.same rfl hvm (h.2.2.2.1 q hq), fun q hq => va_Nc.moved (by rw [hvm]; exact Vm.Alike.refl _) (h.2.2.2.2 q hq)⟩
/-! the walk's variables -/
abbrev Lv : Type := List (Nat × Option Value)
def lvq : Lv → Nat → Option Value
  | [], _ => none
  | q :: t, i => match Nat.beq q.1 i with
    | true => q.2
    | false => lvq t i
def lvOK (ls : Array Slot) (nL : Nat) (lv : Lv) : Prop := ls.size = nL ∧ lv_wf ls ∧ ∀ (i : Nat) (v : Value), lvq lv i = some v → ls[i]? = some (.val v)
theorem lvq_cons (i : Nat) (v : Option Value) (lv : Lv) (j : Nat) : lvq ((i, v) :: lv) j = if i = j then v else lvq lv j := by
  by_cases h : i = j
  · subst h
    simp [lvq, Nat.beq_refl]
  · have : Nat.beq i j = false := by
      cases hb : Nat.beq i j with
      | true => exact absurd (Nat.eq_of_beq_eq_true hb) h
      | false => rfl
    simp [lvq, this, h]
def lvAll (lv : Lv) (nL : Nat) : List (Nat × Value) := (List.range nL).filterMap (fun j => (lvq lv j).map (fun v => (j, v)))
theorem lvAll_mem {lv : Lv} {nL i : Nat} {v : Value} : (i, v) ∈ lvAll lv nL ↔ i < nL ∧ lvq lv i = some v := by
  unfold lvAll
  rw [List.mem_filterMap]
  constructor
  · rintro ⟨j, hj, h⟩
    cases hq : lvq lv j with
    | none => rw [hq] at h; cases h
    | some w =>
      rw [hq] at h
      cases h
      exact ⟨List.mem_range.mp hj, hq⟩
  · rintro ⟨h1, h2⟩
    exact ⟨i, List.mem_range.mpr h1, by rw [h2]; rfl⟩
theorem lvOK.has {ls : Array Slot} {nL : Nat} {lv : Lv} (h : lvOK ls nL lv) : lv_has ls nL (lvAll lv nL) := ⟨h.1, h.2.1, fun q hq => h.2.2 q.1 q.2 (lvAll_mem.mp hq).2⟩
theorem lvOK.lt {ls : Array Slot} {nL : Nat} {lv : Lv} (h : lvOK ls nL lv) {i : Nat} {v : Value} (hv : lvq lv i = some v) : i < nL := by
  have := lv_lt (h.2.2 i v hv)
  rw [h.1] at this
  exact this
def lvP (lv : Lv) (i : Nat) : Bool := match i with
  | 0 => true
  | j + 1 => match lvq lv j with
    | none => true
    | some v => Nat.beq v.category 1
theorem lvP_spec {lv : Lv} {i j : Nat} {v : Value} (h : lvP lv i = true) (hj : j + 1 = i) (hv : lvq lv j = some v) : v.category = 1 := by
  subst hj
  simp only [lvP, hv] at h
  exact Nat.eq_of_beq_eq_true h
theorem lvOK.set1 {ls ls' : Array Slot} {nL i : Nat} {lv : Lv} {v : Value} (h : lvOK ls nL lv) (hp : lvP lv i = true) (h' : lv_has ls' nL ((i, v) :: (lvAll lv nL).filter (fun q => !(q.1 == i) && !(q.1 + 1 == i && q.2.category == 2)))) : lvOK ls' nL ((i, some v) :: lv) := by
  refine ⟨h'.1, h'.2.1, fun j w hj => ?_⟩
  rw [lvq_cons] at hj
  by_cases hij : i = j
  · rw [if_pos hij] at hj
    cases hj
    rw [← hij]
    exact h'.2.2 (i, v) List.mem_cons_self
  · rw [if_neg hij] at hj
    refine h'.2.2 (j, w) (List.mem_cons_of_mem _ (List.mem_filter.mpr ⟨lvAll_mem.mpr ⟨h.lt hj, hj⟩, ?_⟩))
    have h1 : (j == i) = false := by simp; exact fun q => hij q.symm
    have h2 : (j + 1 == i && w.category == 2) = false := by
      by_cases hc : j + 1 = i
      · rw [lvP_spec hp hc hj]; simp
      · simp [hc]
    show (!(j == i) && !(j + 1 == i && w.category == 2)) = true
    rw [h1, h2]
    rfl
theorem lvOK.set2 {ls ls' : Array Slot} {nL i : Nat} {lv : Lv} {v : Value} (h : lvOK ls nL lv) (hp : lvP lv i = true) (h' : lv_has ls' nL ((i, v) :: (lvAll lv nL).filter (fun q => !(q.1 == i) && (!(q.1 == i + 1) && !(q.1 + 1 == i && q.2.category == 2))))) : lvOK ls' nL ((i, some v) :: (i + 1, none) :: lv) := by
  refine ⟨h'.1, h'.2.1, fun j w hj => ?_⟩
  rw [lvq_cons, lvq_cons] at hj
  by_cases hij : i = j
  · rw [if_pos hij] at hj
    cases hj
    rw [← hij]
    exact h'.2.2 (i, v) List.mem_cons_self
  · rw [if_neg hij] at hj
    by_cases hij2 : i + 1 = j
    · rw [if_pos hij2] at hj; cases hj
    · rw [if_neg hij2] at hj
      refine h'.2.2 (j, w) (List.mem_cons_of_mem _ (List.mem_filter.mpr ⟨lvAll_mem.mpr ⟨h.lt hj, hj⟩, ?_⟩))
      have h1 : (j == i) = false := by simp; exact fun q => hij q.symm
      have h3 : (j == i + 1) = false := by simp; exact fun q => hij2 q.symm
      have h2 : (j + 1 == i && w.category == 2) = false := by
        by_cases hc : j + 1 = i
        · rw [lvP_spec hp hc hj]; simp
        · simp [hc]
      show (!(j == i) && (!(j == i + 1) && !(j + 1 == i && w.category == 2))) = true
      rw [h1, h2, h3]
      rfl
theorem lvq_mem {l : List (Nat × Value)} {i : Nat} {v : Value} (h : lvq (l.map (fun q => (q.1, some q.2))) i = some v) : (i, v) ∈ l := by
  induction l with
  | nil => cases h
  | cons a l ih =>
    rw [List.map_cons, lvq_cons] at h
    by_cases h1 : a.1 = i
    · rw [if_pos h1] at h
      cases h
      rw [← h1]
      exact List.mem_cons_self
    · rw [if_neg h1] at h
      exact List.mem_cons_of_mem _ (ih h)
theorem lvOK.of {ls : Array Slot} {nL : Nat} {l : List (Nat × Value)} (h : lv_has ls nL l) : lvOK ls nL (l.map (fun q => (q.1, some q.2))) := ⟨h.1, h.2.1, fun _ _ hv => h.2.2 _ (lvq_mem hv)⟩
def lvSub (lv : Lv) : Lv → Prop
  | [] => True
  | q :: t => (∀ v, q.2 = some v → lvq lv q.1 = some v) ∧ lvSub lv t
theorem lvSub_q {lv : Lv} : ∀ {l : Lv}, lvSub lv l → ∀ (i : Nat) (v : Value), lvq l i = some v → lvq lv i = some v
  | [], _, i, v, h => by cases h
  | a :: l, hs, i, v, h => by
    obtain ⟨k, w⟩ := a
    rw [lvq_cons] at h
    by_cases h1 : k = i
    · rw [if_pos h1] at h
      have := hs.1 v h
      rw [← h1]
      exact this
    · rw [if_neg h1] at h
      exact lvSub_q hs.2 i v h
theorem lvOK.sub {ls : Array Slot} {nL : Nat} {lv l : Lv} (h : lvOK ls nL lv) (hs : lvSub lv l) : lvOK ls nL l := ⟨h.1, h.2.1, fun i v hv => h.2.2 i v (lvSub_q hs i v hv)⟩
theorem lvS0 {lv : Lv} : lvSub lv [] := trivial
theorem lvSc {lv l : Lv} {i : Nat} {v : Value} (h : lvq lv i = some v) (hs : lvSub lv l) : lvSub lv ((i, some v) :: l) := ⟨fun _ e => by cases e; exact h, hs⟩
/-! the judgement: the machine stands in method y at pc, over the memory M; it comes to Q -/
abbrev Cx : Type := Program × Launch × Env × State × MethodId × Array Value × List Frame × Method × Code
abbrev xs' (x : Cx) : State := x.2.2.2.1
def Cok (x : Cx) (g : Gx) (y : MethodName) (cc : ByteArray) (nL : Nat) (ret : Option FieldType) : Prop :=
  x.1.tables.exec = Jvm.exec ∧ x.2.2.2.2.2.2.2.2.code = cc ∧ x.2.2.2.2.2.2.2.2.maxLocals = nL ∧ x.2.2.2.1.vm.findClass y.cls = some x.2.2.2.2.1.cls ∧ (∀ w ∈ TB, w.before x.2.2.2.2.2.1 x.2.2.2.1 = true) ∧ Ev g x.2.2.2.1 ∧ x.2.2.2.2.2.2.2.1.sig.returnType = ret ∧ x.2.2.2.2.2.2.2.1.locks = false ∧ g.1 ≤ x.2.2.2.1.heap.size ∧ x.2.2.2.2.2.2.2.1.name = y.name
def Vw (x : Cx) (R : Room) (k sl : Nat) (Q : State → Prop) (H : Heap) (locs : List Loc) (f : JFrame) : Prop := W x.1 x.2.1 x.2.2.1 R x.2.2.2.1 x.2.2.2.2.1 x.2.2.2.2.2.1 x.2.2.2.2.2.2.1 x.2.2.2.2.2.2.2.1 x.2.2.2.2.2.2.2.2 H locs k sl Q f
def Vj (x : Cx) (g : Gx) (y : MethodName) (cc : ByteArray) (nL : Nat) (ret : Option FieldType) (R : Room) (Q : State → Prop) (k sl : Nat) (M : Mm) (pc : Nat) (lv : Lv) (st : List Value) : Prop :=
  Cok x g y cc nL ret → ∀ (H : Heap) (locs : List Loc) (ls : Array Slot), x.2.2.2.1.heap.size + k = g.1 + mN M → va_P g.2.1 vwCl (wl g M) H → va_S (fun q => g.1 ≤ q) x.2.2.2.1.heap H locs → lvOK ls nL lv → Vw x R k sl Q H locs (F0 x.2.2.2.2.1 pc ls st)
def Qc (g : Gx) (mc : Nat) (post : Option Value → Mm → Prop) : Array Value → State → Outcome → State → Prop := fun _ st o t => (∃ (v : Option Value) (M' : Mm), o = .returned v ∧ post v M' ∧ st.heap.size + mc = g.1 + mN M' ∧ va_P g.2.1 vwCl (wl g M') t.heap) ∧ va_F (fun q => g.1 ≤ q) st t
def Qm (x : Cx) (g : Gx) (mc ms : Nat) (post : Option Value → Mm → Prop) : State → Prop := MQ x.2.2.2.2.2.2.1 (Qc g mc post) x.2.2.2.2.2.1 x.2.2.2.1 mc ms (fun q => g.1 ≤ q)
def Pm (g : Gx) (M : Mm) (U : State) : Prop := U.heap.size = g.1 + mN M ∧ va_P g.2.1 vwCl (wl g M) U.heap ∧ Ev g U
/-- a method's contract: from the memory M with these arguments it returns, and post holds of the answer and the memory then -/
def Ct (g : Gx) (y : MethodName) (cc : ByteArray) (nL : Nat) (ret : Option FieldType) (rm : Room) (av : List Value) (M : Mm) (post : Option Value → Mm → Prop) : Prop :=
  ∀ l : Launch, Met l y (.code y cc nL ret :: TB) rm (va_Pc av (Pm g M)) (Qc g rm.cells post) rm.cells rm.slots (fun q => g.1 ≤ q)
theorem Ct.blind (av : List Value) (g : Gx) (M : Mm) : FrameBlind (va_Pc av (Pm g M)) := fun _ _ _ _ h => ⟨h.1, h.2.1, h.2.2.1, Ev.same rfl h.2.2.2⟩
theorem Ct.of {g : Gx} {y : MethodName} {cc : ByteArray} {nL : Nat} {ret : Option FieldType} {rm : Room} {av : List Value} {M : Mm} {post : Option Value → Mm → Prop} (hy : plainName y.cls = true) (hn : (lg_sl av).length ≤ nL)
    (h : ∀ x : Cx, Vj x g y cc nL ret rm (Qm x g rm.cells rm.slots post) 0 0 M 0 ((lv_args 0 av).map (fun q => (q.1, some q.2))) []) : Ct g y cc nL ret rm av M post := by
  intro l
  refine Met.ofW (cc := cc) (maxL := nL) (ret := ret) hy rfl ?_
  intro p e s m args below meth c s₁ B hml hv
  obtain ⟨rfl, hsz, hP, hE⟩ := hv
  have hts := atoms_spec (ws := .code y cc nL ret :: TB) B.pre
  have hl := lv_entry av (n := nL) hn
  rw [lg_entry_eq]
  exact h (p, l, e, s, m, av.toArray, below, meth, c) ⟨B.exec, B.bytes, hml, findClass_of_methodNamed B.named, fun w hw => hts w (List.mem_cons_of_mem _ hw), hE, B.returns, B.notSynchronized, by show g.1 ≤ s.heap.size; omega, (name_of_methodNamed B.named B.method).1⟩ s.heap [] _ hsz hP va_S.rf (lvOK.of hl)
section Rows
variable {x : Cx} {g : Gx} {y : MethodName} {cc : ByteArray} {nL : Nat} {ret : Option FieldType} {R : Room} {Q : State → Prop} {k sl : Nat} {M : Mm} {pc : Nat} {lv : Lv} {rest : List Value}
theorem r_lv {l : Lv} {st : List Value} (hs : lvSub lv l) (kk : Vj x g y cc nL ret R Q k sl M pc l st) : Vj x g y cc nL ret R Q k sl M pc lv st := fun C H locs ls hE hP hS hl => kk C H locs ls hE hP hS (hl.sub hs)
/-- a value that two ways come to -/
theorem r_dia {P : Int32 → Prop} (pcJ : Nat) {st : List Value} (hJ : ∀ v, P v → Vj x g y cc nL ret R Q k sl M pcJ lv (.int v :: st)) (h : (∀ v, P v → Vj x g y cc nL ret R Q k sl M pcJ lv (.int v :: st)) → Vj x g y cc nL ret R Q k sl M pc lv st) : Vj x g y cc nL ret R Q k sl M pc lv st := h hJ
theorem r_diaL {P : Int64 → Prop} (pcJ : Nat) {st : List Value} (hJ : ∀ v, P v → Vj x g y cc nL ret R Q k sl M pcJ lv (.long v :: st)) (h : (∀ v, P v → Vj x g y cc nL ret R Q k sl M pcJ lv (.long v :: st)) → Vj x g y cc nL ret R Q k sl M pc lv st) : Vj x g y cc nL ret R Q k sl M pc lv st := h hJ
theorem r_top {v : Int32} {st : List Value} (h : ∀ u, u = v → Vj x g y cc nL ret R Q k sl M pc lv (.int u :: st)) : Vj x g y cc nL ret R Q k sl M pc lv (.int v :: st) := h v rfl
theorem r_topl {v : Int64} {st : List Value} (h : ∀ u, u = v → Vj x g y cc nL ret R Q k sl M pc lv (.long u :: st)) : Vj x g y cc nL ret R Q k sl M pc lv (.long v :: st) := h v rfl
theorem r_eq {v w : Int32} {st : List Value} (e : v = w) (h : Vj x g y cc nL ret R Q k sl M pc lv (.int w :: st)) : Vj x g y cc nL ret R Q k sl M pc lv (.int v :: st) := by rw [e]; exact h
theorem r_eql {v w : Int64} {st : List Value} (e : v = w) (h : Vj x g y cc nL ret R Q k sl M pc lv (.long w :: st)) : Vj x g y cc nL ret R Q k sl M pc lv (.long v :: st) := by rw [e]; exact h
theorem r_mem {M' : Mm} {st : List Value} (e : M = M') (h : Vj x g y cc nL ret R Q k sl M' pc lv st) : Vj x g y cc nL ret R Q k sl M pc lv st := by rw [e]; exact h
theorem r_iconst {n : Int} {v : Int32} (d : decode cc pc = .ok (.iconst n, 1)) (hv : Int32.ofInt n = v) (kk : Vj x g y cc nL ret R Q k sl M (pc + 1) lv (.int v :: rest)) : Vj x g y cc nL ret R Q k sl M pc lv (rest) := fun C H locs ls hE hP hS hl => lv_iconst C.1 C.2.1 d hv (kk C H locs ls hE hP hS hl)
theorem r_bipush {n : Int} {v : Int32} (d : decode cc pc = .ok (.bipush n, 2)) (hv : (Int8.ofInt n).toInt32 = v) (kk : Vj x g y cc nL ret R Q k sl M (pc + 2) lv (.int v :: rest)) : Vj x g y cc nL ret R Q k sl M pc lv (rest) := fun C H locs ls hE hP hS hl => lv_bipush C.1 C.2.1 d hv (kk C H locs ls hE hP hS hl)
theorem r_sipush {n : Int} {v : Int32} (d : decode cc pc = .ok (.sipush n, 3)) (hv : (Int16.ofInt n).toInt32 = v) (kk : Vj x g y cc nL ret R Q k sl M (pc + 3) lv (.int v :: rest)) : Vj x g y cc nL ret R Q k sl M pc lv (rest) := fun C H locs ls hE hP hS hl => lv_sipush C.1 C.2.1 d hv (kk C H locs ls hE hP hS hl)
theorem r_lconst {n : Fin 2} {v : Int64} (d : decode cc pc = .ok (.lconst n, 1)) (hv : Int64.ofNat (n : Nat) = v) (kk : Vj x g y cc nL ret R Q k sl M (pc + 1) lv (.long v :: rest)) : Vj x g y cc nL ret R Q k sl M pc lv (rest) := fun C H locs ls hE hP hS hl => lv_lconst C.1 C.2.1 d hv (kk C H locs ls hE hP hS hl)
theorem r_ldc {i : Nat} {v : Int32} (d : decode cc pc = .ok (.ldc i, 2)) (hw : Cond.constant y.cls i v ∈ TB) (kk : Vj x g y cc nL ret R Q k sl M (pc + 2) lv (.int v :: rest)) : Vj x g y cc nL ret R Q k sl M pc lv (rest) := fun C H locs ls hE hP hS hl => lv_ldc C.1 C.2.1 C.2.2.2.1 (C.2.2.2.2.1 _ hw) d (kk C H locs ls hE hP hS hl)
theorem r_ldc_w {i : Nat} {v : Int32} (d : decode cc pc = .ok (.ldc_w i, 3)) (hw : Cond.constant y.cls i v ∈ TB) (kk : Vj x g y cc nL ret R Q k sl M (pc + 3) lv (.int v :: rest)) : Vj x g y cc nL ret R Q k sl M pc lv (rest) := fun C H locs ls hE hP hS hl => lv_ldcw C.1 C.2.1 C.2.2.2.1 (C.2.2.2.2.1 _ hw) d (kk C H locs ls hE hP hS hl)
theorem r_ldc2_w {i : Nat} {v : Int64} (d : decode cc pc = .ok (.ldc2_w i, 3)) (hw : Cond.constantLong y.cls i v ∈ TB) (kk : Vj x g y cc nL ret R Q k sl M (pc + 3) lv (.long v :: rest)) : Vj x g y cc nL ret R Q k sl M pc lv (rest) := fun C H locs ls hE hP hS hl => lv_ldc2 C.1 C.2.1 C.2.2.2.1 (C.2.2.2.2.1 _ hw) d (kk C H locs ls hE hP hS hl)
theorem r_iload_n {n : Fin 4} {v : Int32} (d : decode cc pc = .ok (.iload_n n, 1)) (hl0 : lvq lv (n : Nat) = some (.int v)) (kk : Vj x g y cc nL ret R Q k sl M (pc + 1) lv (.int v :: rest)) : Vj x g y cc nL ret R Q k sl M pc lv (rest) := fun C H locs ls hE hP hS hl => lv_iload_n C.1 C.2.1 d rfl (hl.2.2 _ _ hl0) (kk C H locs ls hE hP hS hl)
theorem r_iload {i : Nat} {v : Int32} (d : decode cc pc = .ok (.iload i, 2)) (hl0 : lvq lv i = some (.int v)) (kk : Vj x g y cc nL ret R Q k sl M (pc + 2) lv (.int v :: rest)) : Vj x g y cc nL ret R Q k sl M pc lv (rest) := fun C H locs ls hE hP hS hl => lv_iload C.1 C.2.1 d (hl.2.2 _ _ hl0) (kk C H locs ls hE hP hS hl)
theorem r_lload_n {n : Fin 4} {v : Int64} (d : decode cc pc = .ok (.lload_n n, 1)) (hl0 : lvq lv (n : Nat) = some (.long v)) (kk : Vj x g y cc nL ret R Q k sl M (pc + 1) lv (.long v :: rest)) : Vj x g y cc nL ret R Q k sl M pc lv (rest) := fun C H locs ls hE hP hS hl => lv_lload_n C.1 C.2.1 d rfl (hl.2.2 _ _ hl0) (kk C H locs ls hE hP hS hl)
theorem r_lload {i : Nat} {v : Int64} (d : decode cc pc = .ok (.lload i, 2)) (hl0 : lvq lv i = some (.long v)) (kk : Vj x g y cc nL ret R Q k sl M (pc + 2) lv (.long v :: rest)) : Vj x g y cc nL ret R Q k sl M pc lv (rest) := fun C H locs ls hE hP hS hl => lv_lload C.1 C.2.1 d (hl.2.2 _ _ hl0) (kk C H locs ls hE hP hS hl)
theorem r_aload_n {n : Fin 4} {v : Nat} (d : decode cc pc = .ok (.aload_n n, 1)) (hl0 : lvq lv (n : Nat) = some (.ref v)) (kk : Vj x g y cc nL ret R Q k sl M (pc + 1) lv (.ref v :: rest)) : Vj x g y cc nL ret R Q k sl M pc lv (rest) := fun C H locs ls hE hP hS hl => lv_aload_n C.1 C.2.1 d rfl (hl.2.2 _ _ hl0) (kk C H locs ls hE hP hS hl)
theorem r_aload {i : Nat} {v : Nat} (d : decode cc pc = .ok (.aload i, 2)) (hl0 : lvq lv i = some (.ref v)) (kk : Vj x g y cc nL ret R Q k sl M (pc + 2) lv (.ref v :: rest)) : Vj x g y cc nL ret R Q k sl M pc lv (rest) := fun C H locs ls hE hP hS hl => lv_aload C.1 C.2.1 d (hl.2.2 _ _ hl0) (kk C H locs ls hE hP hS hl)
theorem r_istore_n {n : Fin 4} {v : Int32} (d : decode cc pc = .ok (.istore_n n, 1)) (hn : (n : Nat) < nL) (hp : lvP lv (n : Nat) = true) (kk : Vj x g y cc nL ret R Q k sl M (pc + 1) (((n : Nat), some (.int v)) :: lv) rest) : Vj x g y cc nL ret R Q k sl M pc lv (.int v :: rest) := fun C H locs ls hE hP hS hl => lv_istore_n C.1 C.2.1 d rfl hl.has hn rfl (fun ls' hl' => kk C H locs ls' hE hP hS (hl.set1 hp hl'))
theorem r_istore {i : Nat} {v : Int32} (d : decode cc pc = .ok (.istore i, 2)) (hn : i < nL) (hp : lvP lv i = true) (kk : Vj x g y cc nL ret R Q k sl M (pc + 2) ((i, some (.int v)) :: lv) rest) : Vj x g y cc nL ret R Q k sl M pc lv (.int v :: rest) := fun C H locs ls hE hP hS hl => lv_istore C.1 C.2.1 d hl.has hn rfl (fun ls' hl' => kk C H locs ls' hE hP hS (hl.set1 hp hl'))
theorem r_lstore_n {n : Fin 4} {v : Int64} (d : decode cc pc = .ok (.lstore_n n, 1)) (hn : (n : Nat) + 1 < nL) (hp : lvP lv (n : Nat) = true) (kk : Vj x g y cc nL ret R Q k sl M (pc + 1) (((n : Nat), some (.long v)) :: ((n : Nat) + 1, none) :: lv) rest) : Vj x g y cc nL ret R Q k sl M pc lv (.long v :: rest) := fun C H locs ls hE hP hS hl => lv_lstore_n C.1 C.2.1 d rfl hl.has hn rfl (fun ls' hl' => kk C H locs ls' hE hP hS (hl.set2 hp hl'))
theorem r_lstore {i : Nat} {v : Int64} (d : decode cc pc = .ok (.lstore i, 2)) (hn : i + 1 < nL) (hp : lvP lv i = true) (kk : Vj x g y cc nL ret R Q k sl M (pc + 2) ((i, some (.long v)) :: (i + 1, none) :: lv) rest) : Vj x g y cc nL ret R Q k sl M pc lv (.long v :: rest) := fun C H locs ls hE hP hS hl => lv_lstore C.1 C.2.1 d hl.has hn rfl (fun ls' hl' => kk C H locs ls' hE hP hS (hl.set2 hp hl'))
theorem r_astore_n {n : Fin 4} {v : Nat} (d : decode cc pc = .ok (.astore_n n, 1)) (hn : (n : Nat) < nL) (hp : lvP lv (n : Nat) = true) (kk : Vj x g y cc nL ret R Q k sl M (pc + 1) (((n : Nat), some (.ref v)) :: lv) rest) : Vj x g y cc nL ret R Q k sl M pc lv (.ref v :: rest) := fun C H locs ls hE hP hS hl => lv_astore_n C.1 C.2.1 d rfl hl.has hn rfl (fun ls' hl' => kk C H locs ls' hE hP hS (hl.set1 hp hl'))
theorem r_astore {i : Nat} {v : Nat} (d : decode cc pc = .ok (.astore i, 2)) (hn : i < nL) (hp : lvP lv i = true) (kk : Vj x g y cc nL ret R Q k sl M (pc + 2) ((i, some (.ref v)) :: lv) rest) : Vj x g y cc nL ret R Q k sl M pc lv (.ref v :: rest) := fun C H locs ls hE hP hS hl => lv_astore C.1 C.2.1 d hl.has hn rfl (fun ls' hl' => kk C H locs ls' hE hP hS (hl.set1 hp hl'))
theorem r_iinc {i : Nat} {n : Int} {v w : Int32} (d : decode cc pc = .ok (.iinc i n, 3)) (hl0 : lvq lv i = some (.int v)) (hw : v + Int32.ofInt n = w) (hp : lvP lv i = true) (kk : Vj x g y cc nL ret R Q k sl M (pc + 3) ((i, some (.int w)) :: lv) rest) : Vj x g y cc nL ret R Q k sl M pc lv rest := fun C H locs ls hE hP hS hl => by
  obtain ⟨j, hj⟩ := List.getElem?_of_mem (lvAll_mem.mpr ⟨hl.lt hl0, hl0⟩)
  exact lv_iinc C.1 C.2.1 d hl.has hj hw (hl.lt hl0) rfl (fun ls' hl' => kk C H locs ls' hE hP hS (hl.set1 hp hl'))
theorem r_iadd {a b : Int32} (d : decode cc pc = .ok (.iadd, 1)) (kk : Vj x g y cc nL ret R Q k sl M (pc + 1) lv (.int (a + b) :: rest)) : Vj x g y cc nL ret R Q k sl M pc lv (.int b :: .int a :: rest) := fun C H locs ls hE hP hS hl => lv_iadd C.1 C.2.1 d (kk C H locs ls hE hP hS hl)
theorem r_isub {a b : Int32} (d : decode cc pc = .ok (.isub, 1)) (kk : Vj x g y cc nL ret R Q k sl M (pc + 1) lv (.int (a - b) :: rest)) : Vj x g y cc nL ret R Q k sl M pc lv (.int b :: .int a :: rest) := fun C H locs ls hE hP hS hl => lv_isub C.1 C.2.1 d (kk C H locs ls hE hP hS hl)
theorem r_imul {a b : Int32} (d : decode cc pc = .ok (.imul, 1)) (kk : Vj x g y cc nL ret R Q k sl M (pc + 1) lv (.int (a * b) :: rest)) : Vj x g y cc nL ret R Q k sl M pc lv (.int b :: .int a :: rest) := fun C H locs ls hE hP hS hl => lv_imul C.1 C.2.1 d (kk C H locs ls hE hP hS hl)
theorem r_iand {a b : Int32} (d : decode cc pc = .ok (.iand, 1)) (kk : Vj x g y cc nL ret R Q k sl M (pc + 1) lv (.int (a &&& b) :: rest)) : Vj x g y cc nL ret R Q k sl M pc lv (.int b :: .int a :: rest) := fun C H locs ls hE hP hS hl => lv_iand C.1 C.2.1 d (kk C H locs ls hE hP hS hl)
theorem r_ior {a b : Int32} (d : decode cc pc = .ok (.ior, 1)) (kk : Vj x g y cc nL ret R Q k sl M (pc + 1) lv (.int (a ||| b) :: rest)) : Vj x g y cc nL ret R Q k sl M pc lv (.int b :: .int a :: rest) := fun C H locs ls hE hP hS hl => lv_ior C.1 C.2.1 d (kk C H locs ls hE hP hS hl)
theorem r_ixor {a b : Int32} (d : decode cc pc = .ok (.ixor, 1)) (kk : Vj x g y cc nL ret R Q k sl M (pc + 1) lv (.int (a ^^^ b) :: rest)) : Vj x g y cc nL ret R Q k sl M pc lv (.int b :: .int a :: rest) := fun C H locs ls hE hP hS hl => lv_ixor C.1 C.2.1 d (kk C H locs ls hE hP hS hl)
theorem r_ishl {a b : Int32} (d : decode cc pc = .ok (.ishl, 1)) (kk : Vj x g y cc nL ret R Q k sl M (pc + 1) lv (.int (a <<< (b &&& 31)) :: rest)) : Vj x g y cc nL ret R Q k sl M pc lv (.int b :: .int a :: rest) := fun C H locs ls hE hP hS hl => lv_ishl C.1 C.2.1 d (kk C H locs ls hE hP hS hl)
theorem r_ishr {a b : Int32} (d : decode cc pc = .ok (.ishr, 1)) (kk : Vj x g y cc nL ret R Q k sl M (pc + 1) lv (.int (a >>> (b &&& 31)) :: rest)) : Vj x g y cc nL ret R Q k sl M pc lv (.int b :: .int a :: rest) := fun C H locs ls hE hP hS hl => lv_ishr C.1 C.2.1 d (kk C H locs ls hE hP hS hl)
theorem r_idiv {a b : Int32} (d : decode cc pc = .ok (.idiv, 1)) (hb : ¬ b = 0) (kk : Vj x g y cc nL ret R Q k sl M (pc + 1) lv (.int (a / b) :: rest)) : Vj x g y cc nL ret R Q k sl M pc lv (.int b :: .int a :: rest) := fun C H locs ls hE hP hS hl => lv_idiv C.1 C.2.1 d hb (kk C H locs ls hE hP hS hl)
theorem r_irem {a b : Int32} (d : decode cc pc = .ok (.irem, 1)) (hb : ¬ b = 0) (kk : Vj x g y cc nL ret R Q k sl M (pc + 1) lv (.int (a - a / b * b) :: rest)) : Vj x g y cc nL ret R Q k sl M pc lv (.int b :: .int a :: rest) := fun C H locs ls hE hP hS hl => lv_irem C.1 C.2.1 d hb (kk C H locs ls hE hP hS hl)
theorem r_iushr {a b : Int32} (d : decode cc pc = .ok (.iushr, 1)) (kk : Vj x g y cc nL ret R Q k sl M (pc + 1) lv (.int (a.toUInt32 >>> (b.toUInt32 &&& Int32.toUInt32 31)).toInt32 :: rest)) : Vj x g y cc nL ret R Q k sl M pc lv (.int b :: .int a :: rest) := fun C H locs ls hE hP hS hl => lv_iushr C.1 C.2.1 d rfl (kk C H locs ls hE hP hS hl)
theorem r_ladd {a b : Int64} (d : decode cc pc = .ok (.ladd, 1)) (kk : Vj x g y cc nL ret R Q k sl M (pc + 1) lv (.long (a + b) :: rest)) : Vj x g y cc nL ret R Q k sl M pc lv (.long b :: .long a :: rest) := fun C H locs ls hE hP hS hl => lv_ladd C.1 C.2.1 d (kk C H locs ls hE hP hS hl)
theorem r_lsub {a b : Int64} (d : decode cc pc = .ok (.lsub, 1)) (kk : Vj x g y cc nL ret R Q k sl M (pc + 1) lv (.long (a - b) :: rest)) : Vj x g y cc nL ret R Q k sl M pc lv (.long b :: .long a :: rest) := fun C H locs ls hE hP hS hl => lv_lsub C.1 C.2.1 d (kk C H locs ls hE hP hS hl)
theorem r_lmul {a b : Int64} (d : decode cc pc = .ok (.lmul, 1)) (kk : Vj x g y cc nL ret R Q k sl M (pc + 1) lv (.long (a * b) :: rest)) : Vj x g y cc nL ret R Q k sl M pc lv (.long b :: .long a :: rest) := fun C H locs ls hE hP hS hl => lv_lmul C.1 C.2.1 d (kk C H locs ls hE hP hS hl)
theorem r_land {a b : Int64} (d : decode cc pc = .ok (.land, 1)) (kk : Vj x g y cc nL ret R Q k sl M (pc + 1) lv (.long (a &&& b) :: rest)) : Vj x g y cc nL ret R Q k sl M pc lv (.long b :: .long a :: rest) := fun C H locs ls hE hP hS hl => lv_land C.1 C.2.1 d (kk C H locs ls hE hP hS hl)
theorem r_lor {a b : Int64} (d : decode cc pc = .ok (.lor, 1)) (kk : Vj x g y cc nL ret R Q k sl M (pc + 1) lv (.long (a ||| b) :: rest)) : Vj x g y cc nL ret R Q k sl M pc lv (.long b :: .long a :: rest) := fun C H locs ls hE hP hS hl => lv_lor C.1 C.2.1 d (kk C H locs ls hE hP hS hl)
theorem r_ldiv {a b : Int64} (d : decode cc pc = .ok (.ldiv, 1)) (hb : ¬ b = 0) (kk : Vj x g y cc nL ret R Q k sl M (pc + 1) lv (.long (a / b) :: rest)) : Vj x g y cc nL ret R Q k sl M pc lv (.long b :: .long a :: rest) := fun C H locs ls hE hP hS hl => lv_ldiv C.1 C.2.1 d hb (kk C H locs ls hE hP hS hl)
theorem r_lrem {a b : Int64} (d : decode cc pc = .ok (.lrem, 1)) (hb : ¬ b = 0) (kk : Vj x g y cc nL ret R Q k sl M (pc + 1) lv (.long (a - a / b * b) :: rest)) : Vj x g y cc nL ret R Q k sl M pc lv (.long b :: .long a :: rest) := fun C H locs ls hE hP hS hl => lv_lrem C.1 C.2.1 d hb (kk C H locs ls hE hP hS hl)
theorem r_lushr {a : Int64} {b : Int32} (d : decode cc pc = .ok (.lushr, 1)) (kk : Vj x g y cc nL ret R Q k sl M (pc + 1) lv (.long (a.toUInt64 >>> (b.toInt64.toUInt64 &&& Int64.toUInt64 63)).toInt64 :: rest)) : Vj x g y cc nL ret R Q k sl M pc lv (.int b :: .long a :: rest) := fun C H locs ls hE hP hS hl => lv_lushr C.1 C.2.1 d rfl (kk C H locs ls hE hP hS hl)
theorem r_lshl {a : Int64} {b : Int32} (d : decode cc pc = .ok (.lshl, 1)) (kk : Vj x g y cc nL ret R Q k sl M (pc + 1) lv (.long (a <<< (b.toInt64 &&& 63)) :: rest)) : Vj x g y cc nL ret R Q k sl M pc lv (.int b :: .long a :: rest) := fun C H locs ls hE hP hS hl => lv_lshl C.1 C.2.1 d rfl (kk C H locs ls hE hP hS hl)
theorem r_i2l {a : Int32} (d : decode cc pc = .ok (.i2l, 1)) (kk : Vj x g y cc nL ret R Q k sl M (pc + 1) lv (.long a.toInt64 :: rest)) : Vj x g y cc nL ret R Q k sl M pc lv (.int a :: rest) := fun C H locs ls hE hP hS hl => lv_i2l C.1 C.2.1 d rfl (kk C H locs ls hE hP hS hl)
theorem r_l2i {a : Int64} (d : decode cc pc = .ok (.l2i, 1)) (kk : Vj x g y cc nL ret R Q k sl M (pc + 1) lv (.int a.toInt32 :: rest)) : Vj x g y cc nL ret R Q k sl M pc lv (.long a :: rest) := fun C H locs ls hE hP hS hl => lv_l2i C.1 C.2.1 d rfl (kk C H locs ls hE hP hS hl)
theorem r_lcmp {a b : Int64} (d : decode cc pc = .ok (.lcmp, 1)) (kk : Vj x g y cc nL ret R Q k sl M (pc + 1) lv (.int (lg_cmp a b) :: rest)) : Vj x g y cc nL ret R Q k sl M pc lv (.long b :: .long a :: rest) := fun C H locs ls hE hP hS hl => W.lcmp C.1 C.2.1 d (kk C H locs ls hE hP hS hl)
theorem r_dup {v : Value} (d : decode cc pc = .ok (.dup, 1)) (hc : v.category = 1) (kk : Vj x g y cc nL ret R Q k sl M (pc + 1) lv (v :: v :: rest)) : Vj x g y cc nL ret R Q k sl M pc lv (v :: rest) := fun C H locs ls hE hP hS hl => lv_dup C.1 C.2.1 d hc (kk C H locs ls hE hP hS hl)
theorem r_pop {v : Value} (d : decode cc pc = .ok (.pop, 1)) (hc : v.category = 1) (kk : Vj x g y cc nL ret R Q k sl M (pc + 1) lv (rest)) : Vj x g y cc nL ret R Q k sl M pc lv (v :: rest) := fun C H locs ls hE hP hS hl => lv_pop C.1 C.2.1 d hc (kk C H locs ls hE hP hS hl)
theorem r_dup2 {v u : Value} (d : decode cc pc = .ok (.dup2, 1)) (hc : v.category = 1) (hc2 : u.category = 1) (kk : Vj x g y cc nL ret R Q k sl M (pc + 1) lv (v :: u :: v :: u :: rest)) : Vj x g y cc nL ret R Q k sl M pc lv (v :: u :: rest) := fun C H locs ls hE hP hS hl => lv_dup2_11 C.1 C.2.1 d hc hc2 (kk C H locs ls hE hP hS hl)
theorem r_if_eq (tgt : Nat) {a : Int32} {off : Int} (d : decode cc pc = .ok (.ifCond .eq off, 3)) (ht : (pc : Int) + off = (tgt : Int)) (kt : a = 0 → Vj x g y cc nL ret R Q k sl M tgt lv rest) (kf : ¬ a = 0 → Vj x g y cc nL ret R Q k sl M (pc + 3) lv rest) : Vj x g y cc nL ret R Q k sl M pc lv (.int a :: rest) := fun C H locs ls hE hP hS hl => lv_if_eq C.1 C.2.1 d ht (fun h => kt h C H locs ls hE hP hS hl) (fun h => kf h C H locs ls hE hP hS hl)
theorem r_icmp_eq (tgt : Nat) {a b : Int32} {off : Int} (d : decode cc pc = .ok (.if_icmp .eq off, 3)) (ht : (pc : Int) + off = (tgt : Int)) (kt : a = b → Vj x g y cc nL ret R Q k sl M tgt lv rest) (kf : ¬ a = b → Vj x g y cc nL ret R Q k sl M (pc + 3) lv rest) : Vj x g y cc nL ret R Q k sl M pc lv (.int b :: .int a :: rest) := fun C H locs ls hE hP hS hl => lv_icmp_eq C.1 C.2.1 d ht (fun h => kt h C H locs ls hE hP hS hl) (fun h => kf h C H locs ls hE hP hS hl)
theorem r_if_ne (tgt : Nat) {a : Int32} {off : Int} (d : decode cc pc = .ok (.ifCond .ne off, 3)) (ht : (pc : Int) + off = (tgt : Int)) (kt : ¬ a = 0 → Vj x g y cc nL ret R Q k sl M tgt lv rest) (kf : a = 0 → Vj x g y cc nL ret R Q k sl M (pc + 3) lv rest) : Vj x g y cc nL ret R Q k sl M pc lv (.int a :: rest) := fun C H locs ls hE hP hS hl => lv_if_ne C.1 C.2.1 d ht (fun h => kt h C H locs ls hE hP hS hl) (fun h => kf h C H locs ls hE hP hS hl)
theorem r_icmp_ne (tgt : Nat) {a b : Int32} {off : Int} (d : decode cc pc = .ok (.if_icmp .ne off, 3)) (ht : (pc : Int) + off = (tgt : Int)) (kt : ¬ a = b → Vj x g y cc nL ret R Q k sl M tgt lv rest) (kf : a = b → Vj x g y cc nL ret R Q k sl M (pc + 3) lv rest) : Vj x g y cc nL ret R Q k sl M pc lv (.int b :: .int a :: rest) := fun C H locs ls hE hP hS hl => lv_icmp_ne C.1 C.2.1 d ht (fun h => kt h C H locs ls hE hP hS hl) (fun h => kf h C H locs ls hE hP hS hl)
theorem r_if_lt (tgt : Nat) {a : Int32} {off : Int} (d : decode cc pc = .ok (.ifCond .lt off, 3)) (ht : (pc : Int) + off = (tgt : Int)) (kt : a < 0 → Vj x g y cc nL ret R Q k sl M tgt lv rest) (kf : ¬ a < 0 → Vj x g y cc nL ret R Q k sl M (pc + 3) lv rest) : Vj x g y cc nL ret R Q k sl M pc lv (.int a :: rest) := fun C H locs ls hE hP hS hl => lv_if_lt C.1 C.2.1 d ht (fun h => kt h C H locs ls hE hP hS hl) (fun h => kf h C H locs ls hE hP hS hl)
theorem r_icmp_lt (tgt : Nat) {a b : Int32} {off : Int} (d : decode cc pc = .ok (.if_icmp .lt off, 3)) (ht : (pc : Int) + off = (tgt : Int)) (kt : a < b → Vj x g y cc nL ret R Q k sl M tgt lv rest) (kf : ¬ a < b → Vj x g y cc nL ret R Q k sl M (pc + 3) lv rest) : Vj x g y cc nL ret R Q k sl M pc lv (.int b :: .int a :: rest) := fun C H locs ls hE hP hS hl => lv_icmp_lt C.1 C.2.1 d ht (fun h => kt h C H locs ls hE hP hS hl) (fun h => kf h C H locs ls hE hP hS hl)
theorem r_if_ge (tgt : Nat) {a : Int32} {off : Int} (d : decode cc pc = .ok (.ifCond .ge off, 3)) (ht : (pc : Int) + off = (tgt : Int)) (kt : 0 ≤ a → Vj x g y cc nL ret R Q k sl M tgt lv rest) (kf : ¬ 0 ≤ a → Vj x g y cc nL ret R Q k sl M (pc + 3) lv rest) : Vj x g y cc nL ret R Q k sl M pc lv (.int a :: rest) := fun C H locs ls hE hP hS hl => lv_if_ge C.1 C.2.1 d ht (fun h => kt h C H locs ls hE hP hS hl) (fun h => kf h C H locs ls hE hP hS hl)
theorem r_icmp_ge (tgt : Nat) {a b : Int32} {off : Int} (d : decode cc pc = .ok (.if_icmp .ge off, 3)) (ht : (pc : Int) + off = (tgt : Int)) (kt : b ≤ a → Vj x g y cc nL ret R Q k sl M tgt lv rest) (kf : ¬ b ≤ a → Vj x g y cc nL ret R Q k sl M (pc + 3) lv rest) : Vj x g y cc nL ret R Q k sl M pc lv (.int b :: .int a :: rest) := fun C H locs ls hE hP hS hl => lv_icmp_ge C.1 C.2.1 d ht (fun h => kt h C H locs ls hE hP hS hl) (fun h => kf h C H locs ls hE hP hS hl)
theorem r_if_gt (tgt : Nat) {a : Int32} {off : Int} (d : decode cc pc = .ok (.ifCond .gt off, 3)) (ht : (pc : Int) + off = (tgt : Int)) (kt : 0 < a → Vj x g y cc nL ret R Q k sl M tgt lv rest) (kf : ¬ 0 < a → Vj x g y cc nL ret R Q k sl M (pc + 3) lv rest) : Vj x g y cc nL ret R Q k sl M pc lv (.int a :: rest) := fun C H locs ls hE hP hS hl => lv_if_gt C.1 C.2.1 d ht (fun h => kt h C H locs ls hE hP hS hl) (fun h => kf h C H locs ls hE hP hS hl)
theorem r_icmp_gt (tgt : Nat) {a b : Int32} {off : Int} (d : decode cc pc = .ok (.if_icmp .gt off, 3)) (ht : (pc : Int) + off = (tgt : Int)) (kt : b < a → Vj x g y cc nL ret R Q k sl M tgt lv rest) (kf : ¬ b < a → Vj x g y cc nL ret R Q k sl M (pc + 3) lv rest) : Vj x g y cc nL ret R Q k sl M pc lv (.int b :: .int a :: rest) := fun C H locs ls hE hP hS hl => lv_icmp_gt C.1 C.2.1 d ht (fun h => kt h C H locs ls hE hP hS hl) (fun h => kf h C H locs ls hE hP hS hl)
theorem r_if_le (tgt : Nat) {a : Int32} {off : Int} (d : decode cc pc = .ok (.ifCond .le off, 3)) (ht : (pc : Int) + off = (tgt : Int)) (kt : a ≤ 0 → Vj x g y cc nL ret R Q k sl M tgt lv rest) (kf : ¬ a ≤ 0 → Vj x g y cc nL ret R Q k sl M (pc + 3) lv rest) : Vj x g y cc nL ret R Q k sl M pc lv (.int a :: rest) := fun C H locs ls hE hP hS hl => lv_if_le C.1 C.2.1 d ht (fun h => kt h C H locs ls hE hP hS hl) (fun h => kf h C H locs ls hE hP hS hl)
theorem r_icmp_le (tgt : Nat) {a b : Int32} {off : Int} (d : decode cc pc = .ok (.if_icmp .le off, 3)) (ht : (pc : Int) + off = (tgt : Int)) (kt : a ≤ b → Vj x g y cc nL ret R Q k sl M tgt lv rest) (kf : ¬ a ≤ b → Vj x g y cc nL ret R Q k sl M (pc + 3) lv rest) : Vj x g y cc nL ret R Q k sl M pc lv (.int b :: .int a :: rest) := fun C H locs ls hE hP hS hl => lv_icmp_le C.1 C.2.1 d ht (fun h => kt h C H locs ls hE hP hS hl) (fun h => kf h C H locs ls hE hP hS hl)
theorem r_goto (tgt : Nat) {off : Int} {st : List Value} (d : decode cc pc = .ok (.goto off, 3)) (ht : (pc : Int) + off = (tgt : Int)) (kk : Vj x g y cc nL ret R Q k sl M tgt lv st) : Vj x g y cc nL ret R Q k sl M pc lv st := fun C H locs ls hE hP hS hl => lv_goto C.1 C.2.1 d ht (kk C H locs ls hE hP hS hl)
theorem r_lookup (tgt : Nat) {dflt : Int} {ps : Array (Int × Int)} {len : Nat} {a : Int32} {off : Int} (d : decode cc pc = .ok (.lookupswitch dflt ps, len)) (hp : (ps.toList.zip (ps.toList.drop 1)).all (fun (a, next) => a.1 < next.1) = true) (ho : Op.lookupswitch.offset ps.toList dflt a.toInt = off) (ht : (pc : Int) + off = (tgt : Int)) (kk : Vj x g y cc nL ret R Q k sl M tgt lv rest) : Vj x g y cc nL ret R Q k sl M pc lv (.int a :: rest) := fun C H locs ls hE hP hS hl => lv_lookup C.1 C.2.1 d hp ho ht (kk C H locs ls hE hP hS hl)
theorem r_tableOut (tgt : Nat) {dflt lo hi : Int} {offs : Array Int} {len : Nat} {a : Int32} (d : decode cc pc = .ok (.tableswitch dflt lo hi offs, len)) (h : a.toInt < lo ∨ hi < a.toInt) (ht : (pc : Int) + dflt = (tgt : Int)) (kk : Vj x g y cc nL ret R Q k sl M tgt lv rest) : Vj x g y cc nL ret R Q k sl M pc lv (.int a :: rest) := fun C H locs ls hE hP hS hl => lv_tableOut C.1 C.2.1 d h ht (kk C H locs ls hE hP hS hl)
theorem r_tableIn (tgt : Nat) {dflt lo hi : Int} {offs : Array Int} {len : Nat} {a : Int32} {off : Int} (d : decode cc pc = .ok (.tableswitch dflt lo hi offs, len)) (h1 : ¬ a.toInt < lo) (h2 : ¬ hi < a.toInt) (ho : offs[(a.toInt - lo).toNat]? = some off) (ht : (pc : Int) + off = (tgt : Int)) (kk : Vj x g y cc nL ret R Q k sl M tgt lv rest) : Vj x g y cc nL ret R Q k sl M pc lv (.int a :: rest) := fun C H locs ls hE hP hS hl => lv_tableIn C.1 C.2.1 d h1 h2 ho ht (kk C H locs ls hE hP hS hl)
/-- the field that entry idx of own names is slot n of kind ci -/
def FL (own : String) (idx ci n : Nat) : Prop := ∃ (C : String) (T : u_T) (N : Nat), vwCl[ci]? = some (C, T, N) ∧ n < N ∧ (∀ w ∈ u_ws C T N, w ∈ TB) ∧ Cond.fieldLink own idx (T n).1 (T n).2.1 (T n).2.2.1 ∈ TB
def FP (own : String) (idx ci n : Nat) (fin : Bool) (ty : FieldType) : Prop := ∃ (C : String) (T : u_T) (N : Nat), vwCl[ci]? = some (C, T, N) ∧ n < N ∧ (∀ w ∈ u_ws C T N, w ∈ TB) ∧ Cond.fieldLink own idx (T n).1 (T n).2.1 (T n).2.2.1 ∈ TB ∧ (∃ ty0 : Nat → FieldType, ∀ k, k < N → parseFieldDescriptor (T k).2.2.1 = some (ty0 k)) ∧ (∀ a, a < N → ∀ b, b < N → a ≠ b → (T a).2.1 ≠ (T b).2.1) ∧ (T n).2.2.2 = fin ∧ parseFieldDescriptor (T n).2.2.1 = some ty ∧ (fin = true → (T n).1 = own)
theorem wl_obj {a ci : Nat} (ha : a < mN M) (hT : mT M a = .inl ci) : (wl g M)[a]? = some (g.1 + a, .inr (ci, flds g.1 M a ci)) := by rw [wl_at ha, cel_obj hT]
theorem flds_I {a ci n : Nat} (hk : (fkd ci)[n]? = some 0) : (flds g.1 M a ci)[n]? = some (.int (mI M a n)) := by rw [flds_get, hk]; rfl
theorem flds_L {a ci n : Nat} (hk : (fkd ci)[n]? = some 1) : (flds g.1 M a ci)[n]? = some (.long (mL M a n)) := by rw [flds_get, hk]; rfl
theorem flds_R {a ci n j : Nat} (hk : (fkd ci)[n]? = some 2) (hR : mR M a n = some j) : (flds g.1 M a ci)[n]? = some (.ref (g.1 + j)) := by rw [flds_get, hk]; simp [fval, hR, va_rf]
theorem flds_len {a ci n d : Nat} (hk : (fkd ci)[n]? = some d) : n < (flds g.1 M a ci).length := by
  rcases Nat.lt_or_ge n (flds g.1 M a ci).length with h | h
  · exact h
  · have h2 := flds_get g.1 M a ci n
    rw [List.getElem?_eq_none h, hk] at h2
    cases h2
theorem r_getI {a ci n idx : Nat} (f : FL y.cls idx ci n) (hk : (fkd ci)[n]? = some 0) (ha : a < mN M) (hT : mT M a = .inl ci) (d : decode cc pc = .ok (.getfield idx, 3)) (kk : Vj x g y cc nL ret R Q k sl M (pc + 3) lv (.int (mI M a n) :: rest)) : Vj x g y cc nL ret R Q k sl M pc lv (.ref (g.1 + a) :: rest) := fun C H locs ls hE hP hS hl => by
  obtain ⟨C', T, N, h1, h2, h3, h4⟩ := f
  exact va_get (D := g.2.1) C.1 C.2.1 C.2.2.2.2.1 h3 C.2.2.2.1 C.2.2.2.2.2.1.1 hP a (wl_obj ha hT) h1 n h2 (C.2.2.2.2.1 _ h4) (fun _ h => h) (flds_I hk) d (kk C H locs ls hE hP hS hl)
theorem r_getL {a ci n idx : Nat} (f : FL y.cls idx ci n) (hk : (fkd ci)[n]? = some 1) (ha : a < mN M) (hT : mT M a = .inl ci) (d : decode cc pc = .ok (.getfield idx, 3)) (kk : Vj x g y cc nL ret R Q k sl M (pc + 3) lv (.long (mL M a n) :: rest)) : Vj x g y cc nL ret R Q k sl M pc lv (.ref (g.1 + a) :: rest) := fun C H locs ls hE hP hS hl => by
  obtain ⟨C', T, N, h1, h2, h3, h4⟩ := f
  exact va_get (D := g.2.1) C.1 C.2.1 C.2.2.2.2.1 h3 C.2.2.2.1 C.2.2.2.2.2.1.1 hP a (wl_obj ha hT) h1 n h2 (C.2.2.2.2.1 _ h4) (fun _ h => h) (flds_L hk) d (kk C H locs ls hE hP hS hl)
theorem r_getR {a ci n idx j : Nat} (f : FL y.cls idx ci n) (hk : (fkd ci)[n]? = some 2) (ha : a < mN M) (hT : mT M a = .inl ci) (hR : mR M a n = some j) (d : decode cc pc = .ok (.getfield idx, 3)) (kk : Vj x g y cc nL ret R Q k sl M (pc + 3) lv (.ref (g.1 + j) :: rest)) : Vj x g y cc nL ret R Q k sl M pc lv (.ref (g.1 + a) :: rest) := fun C H locs ls hE hP hS hl => by
  obtain ⟨C', T, N, h1, h2, h3, h4⟩ := f
  exact va_get (D := g.2.1) C.1 C.2.1 C.2.2.2.2.1 h3 C.2.2.2.1 C.2.2.2.2.2.1.1 hP a (wl_obj ha hT) h1 n h2 (C.2.2.2.2.1 _ h4) (fun _ h => h) (flds_R hk hR) d (kk C H locs ls hE hP hS hl)
theorem r_putI {a ci n idx : Nat} {v : Int32} {ty : FieldType} (f : FP y.cls idx ci n false ty) (hk : (fkd ci)[n]? = some 0) (ha : a < mN M) (hT : mT M a = .inl ci) (hnr : narrow ty (.int v) = .int v) (hft : fits ty (.int v) = true) (d : decode cc pc = .ok (.putfield idx, 3)) (kk : Vj x g y cc nL ret R Q k sl (sI M a n v) (pc + 3) lv rest) : Vj x g y cc nL ret R Q k sl M pc lv (.int v :: .ref (g.1 + a) :: rest) := fun C H locs ls hE hP hS hl => by
  obtain ⟨C', T, N, h1, h2, h3, h4, ⟨ty0, h5⟩, h6, h7, h8, h9⟩ := f
  exact va_put (D := g.2.1) C.1 C.2.1 C.2.2.2.2.1 h3 ty0 h5 h6 C.2.2.2.1 C.2.2.2.2.2.1.1 hP (wl_D g M) hS a (wl_obj ha hT) h1 n h2 (C.2.2.2.2.1 _ h4) (fun _ h => h) h7 h8 hnr hft (flds_len hk) d (fun H1 locs1 hP1 _ hS1 => kk C H1 locs1 ls hE (by rw [← wl_setFI hT hk]; exact hP1) hS1 hl)
theorem r_putIF {a ci n idx : Nat} {v : Int32} {ty : FieldType} (f : FP y.cls idx ci n true ty) (hk : (fkd ci)[n]? = some 0) (ha : a < mN M) (hT : mT M a = .inl ci) (hin : y.name = "<init>") (hnr : narrow ty (.int v) = .int v) (hft : fits ty (.int v) = true) (d : decode cc pc = .ok (.putfield idx, 3)) (kk : Vj x g y cc nL ret R Q k sl (sI M a n v) (pc + 3) lv rest) : Vj x g y cc nL ret R Q k sl M pc lv (.int v :: .ref (g.1 + a) :: rest) := fun C H locs ls hE hP hS hl => by
  obtain ⟨C', T, N, h1, h2, h3, h4, ⟨ty0, h5⟩, h6, h7, h8, h9⟩ := f
  exact va_putF (D := g.2.1) C.1 C.2.1 C.2.2.2.2.1 h3 ty0 h5 h6 C.2.2.2.1 C.2.2.2.2.2.1.1 hP (wl_D g M) hS a (wl_obj ha hT) h1 n h2 (C.2.2.2.2.1 _ h4) (fun _ h => h) h7 (C.2.2.2.2.2.2.2.2.2.trans hin) (h9 rfl) h8 hnr hft (flds_len hk) d (fun H1 locs1 hP1 _ hS1 => kk C H1 locs1 ls hE (by rw [← wl_setFI hT hk]; exact hP1) hS1 hl)
theorem r_putL {a ci n idx : Nat} {v : Int64} (f : FP y.cls idx ci n false .long) (hk : (fkd ci)[n]? = some 1) (ha : a < mN M) (hT : mT M a = .inl ci) (d : decode cc pc = .ok (.putfield idx, 3)) (kk : Vj x g y cc nL ret R Q k sl (sL M a n v) (pc + 3) lv rest) : Vj x g y cc nL ret R Q k sl M pc lv (.long v :: .ref (g.1 + a) :: rest) := fun C H locs ls hE hP hS hl => by
  obtain ⟨C', T, N, h1, h2, h3, h4, ⟨ty0, h5⟩, h6, h7, h8, h9⟩ := f
  exact va_put (D := g.2.1) C.1 C.2.1 C.2.2.2.2.1 h3 ty0 h5 h6 C.2.2.2.1 C.2.2.2.2.2.1.1 hP (wl_D g M) hS a (wl_obj ha hT) h1 n h2 (C.2.2.2.2.1 _ h4) (fun _ h => h) h7 h8 rfl rfl (flds_len hk) d (fun H1 locs1 hP1 _ hS1 => kk C H1 locs1 ls hE (by rw [← wl_setFL hT hk]; exact hP1) hS1 hl)
theorem r_putLF {a ci n idx : Nat} {v : Int64} (f : FP y.cls idx ci n true .long) (hk : (fkd ci)[n]? = some 1) (ha : a < mN M) (hT : mT M a = .inl ci) (hin : y.name = "<init>") (d : decode cc pc = .ok (.putfield idx, 3)) (kk : Vj x g y cc nL ret R Q k sl (sL M a n v) (pc + 3) lv rest) : Vj x g y cc nL ret R Q k sl M pc lv (.long v :: .ref (g.1 + a) :: rest) := fun C H locs ls hE hP hS hl => by
  obtain ⟨C', T, N, h1, h2, h3, h4, ⟨ty0, h5⟩, h6, h7, h8, h9⟩ := f
  exact va_putF (D := g.2.1) C.1 C.2.1 C.2.2.2.2.1 h3 ty0 h5 h6 C.2.2.2.1 C.2.2.2.2.2.1.1 hP (wl_D g M) hS a (wl_obj ha hT) h1 n h2 (C.2.2.2.2.1 _ h4) (fun _ h => h) h7 (C.2.2.2.2.2.2.2.2.2.trans hin) (h9 rfl) h8 rfl rfl (flds_len hk) d (fun H1 locs1 hP1 _ hS1 => kk C H1 locs1 ls hE (by rw [← wl_setFL hT hk]; exact hP1) hS1 hl)
theorem r_putR {a ci n idx : Nat} {v : Nat} {ty : FieldType} (f : FP y.cls idx ci n false ty) (hk : (fkd ci)[n]? = some 2) (ha : a < mN M) (hT : mT M a = .inl ci) (hnr : narrow ty (.ref (g.1 + v)) = .ref (g.1 + v)) (hft : fits ty (.ref (g.1 + v)) = true) (d : decode cc pc = .ok (.putfield idx, 3)) (kk : Vj x g y cc nL ret R Q k sl (sR M a n (some v)) (pc + 3) lv rest) : Vj x g y cc nL ret R Q k sl M pc lv (.ref (g.1 + v) :: .ref (g.1 + a) :: rest) := fun C H locs ls hE hP hS hl => by
  obtain ⟨C', T, N, h1, h2, h3, h4, ⟨ty0, h5⟩, h6, h7, h8, h9⟩ := f
  exact va_put (D := g.2.1) C.1 C.2.1 C.2.2.2.2.1 h3 ty0 h5 h6 C.2.2.2.1 C.2.2.2.2.2.1.1 hP (wl_D g M) hS a (wl_obj ha hT) h1 n h2 (C.2.2.2.2.1 _ h4) (fun _ h => h) h7 h8 hnr hft (flds_len hk) d (fun H1 locs1 hP1 _ hS1 => kk C H1 locs1 ls hE (by rw [← wl_setFR hT hk]; exact hP1) hS1 hl)
theorem r_putRF {a ci n idx : Nat} {v : Nat} {ty : FieldType} (f : FP y.cls idx ci n true ty) (hk : (fkd ci)[n]? = some 2) (ha : a < mN M) (hT : mT M a = .inl ci) (hin : y.name = "<init>") (hnr : narrow ty (.ref (g.1 + v)) = .ref (g.1 + v)) (hft : fits ty (.ref (g.1 + v)) = true) (d : decode cc pc = .ok (.putfield idx, 3)) (kk : Vj x g y cc nL ret R Q k sl (sR M a n (some v)) (pc + 3) lv rest) : Vj x g y cc nL ret R Q k sl M pc lv (.ref (g.1 + v) :: .ref (g.1 + a) :: rest) := fun C H locs ls hE hP hS hl => by
  obtain ⟨C', T, N, h1, h2, h3, h4, ⟨ty0, h5⟩, h6, h7, h8, h9⟩ := f
  exact va_putF (D := g.2.1) C.1 C.2.1 C.2.2.2.2.1 h3 ty0 h5 h6 C.2.2.2.1 C.2.2.2.2.2.1.1 hP (wl_D g M) hS a (wl_obj ha hT) h1 n h2 (C.2.2.2.2.1 _ h4) (fun _ h => h) h7 (C.2.2.2.2.2.2.2.2.2.trans hin) (h9 rfl) h8 hnr hft (flds_len hk) d (fun H1 locs1 hP1 _ hS1 => kk C H1 locs1 ls hE (by rw [← wl_setFR hT hk]; exact hP1) hS1 hl)
theorem r_iaload {a n : Nat} {i : Int32} (hT : mT M a = .inr (0, n)) (ha : a < mN M) (hi : vp_in i n) (d : decode cc pc = .ok (.iaload, 1)) (kk : Vj x g y cc nL ret R Q k sl M (pc + 1) lv (.int (mI M a i.toNatClampNeg) :: rest)) : Vj x g y cc nL ret R Q k sl M pc lv (.int i :: .ref (g.1 + a) :: rest) := fun C H locs ls hE hP hS hl => va_iald C.1 C.2.1 C.2.2.2.2.2.1.1 hP a 0 (by rw [wl_at ha, cel_I hT]) rfl hi d (kk C H locs ls hE hP hS hl)
theorem r_zaload {a n : Nat} {i : Int32} (hT : mT M a = .inr (2, n)) (ha : a < mN M) (hi : vp_in i n) (d : decode cc pc = .ok (.baload, 1)) (kk : Vj x g y cc nL ret R Q k sl M (pc + 1) lv (.int (mI M a i.toNatClampNeg) :: rest)) : Vj x g y cc nL ret R Q k sl M pc lv (.int i :: .ref (g.1 + a) :: rest) := fun C H locs ls hE hP hS hl => va_zald C.1 C.2.1 C.2.2.2.2.2.1.1 hP a 2 (by rw [wl_at ha, cel_Z hT]) rfl hi d (kk C H locs ls hE hP hS hl)
theorem r_laload {a n : Nat} {i : Int32} (hT : mT M a = .inr (1, n)) (ha : a < mN M) (hi : vp_in i n) (d : decode cc pc = .ok (.laload, 1)) (kk : Vj x g y cc nL ret R Q k sl M (pc + 1) lv (.long (mL M a i.toNatClampNeg) :: rest)) : Vj x g y cc nL ret R Q k sl M pc lv (.int i :: .ref (g.1 + a) :: rest) := fun C H locs ls hE hP hS hl => va_lald C.1 C.2.1 C.2.2.2.2.2.1.1 hP a 1 (by rw [wl_at ha, cel_L hT]) rfl hi d (kk C H locs ls hE hP hS hl)
theorem r_aaload {a n j : Nat} {i : Int32} (hT : mT M a = .inr (3, n)) (ha : a < mN M) (hi : vp_in i n) (hR : mR M a i.toNatClampNeg = some j) (d : decode cc pc = .ok (.aaload, 1)) (kk : Vj x g y cc nL ret R Q k sl M (pc + 1) lv (.ref (g.1 + j) :: rest)) : Vj x g y cc nL ret R Q k sl M pc lv (.int i :: .ref (g.1 + a) :: rest) := fun C H locs ls hE hP hS hl => va_aldq C.1 C.2.1 C.2.2.2.2.2.1.1 hP a 3 (by rw [wl_at ha, cel_R hT]) rfl hi d (by rw [hR]; exact kk C H locs ls hE hP hS hl)
theorem r_iastore {a n : Nat} {i v : Int32} (hT : mT M a = .inr (0, n)) (ha : a < mN M) (hi : vp_in i n) (d : decode cc pc = .ok (.iastore, 1)) (kk : Vj x g y cc nL ret R Q k sl (sI M a i.toNatClampNeg v) (pc + 1) lv rest) : Vj x g y cc nL ret R Q k sl M pc lv (.int v :: .int i :: .ref (g.1 + a) :: rest) := fun C H locs ls hE hP hS hl => va_iast C.1 C.2.1 C.2.2.2.2.2.1.1 hP (wl_D g M) hS a 0 (by rw [wl_at ha, cel_I hT]) rfl hi d (fun H1 locs1 hP1 _ hS1 => by exact kk C H1 locs1 ls hE (by rw [← wl_setAI hT]; exact hP1) hS1 hl)
theorem r_lastore {a n : Nat} {i : Int32} {v : Int64} (hT : mT M a = .inr (1, n)) (ha : a < mN M) (hi : vp_in i n) (d : decode cc pc = .ok (.lastore, 1)) (kk : Vj x g y cc nL ret R Q k sl (sL M a i.toNatClampNeg v) (pc + 1) lv rest) : Vj x g y cc nL ret R Q k sl M pc lv (.long v :: .int i :: .ref (g.1 + a) :: rest) := fun C H locs ls hE hP hS hl => va_last C.1 C.2.1 C.2.2.2.2.2.1.1 hP (wl_D g M) hS a 1 (by rw [wl_at ha, cel_L hT]) rfl hi d (fun H1 locs1 hP1 _ hS1 => by exact kk C H1 locs1 ls hE (by rw [← wl_setAL hT]; exact hP1) hS1 hl)
theorem r_zastore {a n : Nat} {i v : Int32} (hT : mT M a = .inr (2, n)) (ha : a < mN M) (hi : vp_in i n) (hv : vp_nar .boolean v = v) (d : decode cc pc = .ok (.bastore, 1)) (kk : Vj x g y cc nL ret R Q k sl (sI M a i.toNatClampNeg v) (pc + 1) lv rest) : Vj x g y cc nL ret R Q k sl M pc lv (.int v :: .int i :: .ref (g.1 + a) :: rest) := fun C H locs ls hE hP hS hl => va_zast C.1 C.2.1 C.2.2.2.2.2.1.1 hP (wl_D g M) hS a 2 (by rw [wl_at ha, cel_Z hT]) rfl hi d (fun H1 locs1 hP1 _ hS1 => by rw [hv] at hP1; exact kk C H1 locs1 ls hE (by rw [← wl_setAZ hT]; exact hP1) hS1 hl)
theorem r_aastore {a n v ci : Nat} {i : Int32} {r : vw_C} (hT : mT M a = .inr (3, n)) (ha : a < mN M) (hv : v < mN M) (hTv : mT M v = .inl ci) (hc : vwCl[ci]? = some r) (hca : r.1 = RX7 ∨ (r.1, RX7) ∈ caP) (hi : vp_in i n) (d : decode cc pc = .ok (.aastore, 1)) (kk : Vj x g y cc nL ret R Q k sl (sR M a i.toNatClampNeg (some v)) (pc + 1) lv rest) : Vj x g y cc nL ret R Q k sl M pc lv (.ref (g.1 + v) :: .int i :: .ref (g.1 + a) :: rest) := fun C H locs ls hE hP hS hl => by
  rcases hca with h | h
  · exact va_astq C.1 C.2.1 C.2.2.2.2.2.1.1 hP (wl_D g M) hS a 3 v ci (by rw [wl_at ha, cel_R hT]) (by rw [h]; rfl) (wl_obj hv hTv) hc hi d (fun H1 locs1 hP1 _ hS1 => kk C H1 locs1 ls hE (by rw [← wl_setAR hT]; exact hP1) hS1 hl)
  · exact va_astqO C.1 C.2.1 C.2.2.2.2.2.1.1 hP (wl_D g M) hS a 3 v ci (by rw [wl_at ha, cel_R hT]) rfl (C.2.2.2.2.2.1.2.2.2.1 _ h) (wl_obj hv hTv) hc hi d (fun H1 locs1 hP1 _ hS1 => kk C H1 locs1 ls hE (by rw [← wl_setAR hT]; exact hP1) hS1 hl)
theorem r_alenI {a n : Nat} (hT : mT M a = .inr (0, n)) (ha : a < mN M) (d : decode cc pc = .ok (.arraylength, 1)) (kk : Vj x g y cc nL ret R Q k sl M (pc + 1) lv (.int (Int32.ofNat n) :: rest)) : Vj x g y cc nL ret R Q k sl M pc lv (.ref (g.1 + a) :: rest) := fun C H locs ls hE hP hS hl => va_alen (x := (n, .inl (mI M a))) C.1 C.2.1 C.2.2.2.2.2.1.1 hP a 0 (by rw [wl_at ha, cel_I hT]) rfl rfl d (kk C H locs ls hE hP hS hl)
theorem r_sld {b n : Nat} {zs : Nat → Int32} {i : Int32} (hX : va_X b n zs x.2.2.2.1 x.2.2.2.1.heap) (hb : b < x.2.2.2.1.heap.size) (hg : b < g.1) (hi : vp_in i n) (d : decode cc pc = .ok (.iaload, 1)) (kk : Vj x g y cc nL ret R Q k sl M (pc + 1) lv (.int (zs i.toNatClampNeg) :: rest)) : Vj x g y cc nL ret R Q k sl M pc lv (.int i :: .ref b :: rest) := fun C H locs ls hE hP hS hl => va_sld C.1 C.2.1 hX hb (Nat.not_le.mpr hg) hS hi d (kk C H locs ls hE hP hS hl)
theorem r_slen {b n : Nat} {zs : Nat → Int32} (hX : va_X b n zs x.2.2.2.1 x.2.2.2.1.heap) (hb : b < x.2.2.2.1.heap.size) (hg : b < g.1) (d : decode cc pc = .ok (.arraylength, 1)) (kk : Vj x g y cc nL ret R Q k sl M (pc + 1) lv (.int (Int32.ofNat n) :: rest)) : Vj x g y cc nL ret R Q k sl M pc lv (.ref b :: rest) := fun C H locs ls hE hP hS hl => va_slen C.1 C.2.1 hX hb (Nat.not_le.mpr hg) hS d (kk C H locs ls hE hP hS hl)
theorem r_iret {v : Int32} {post : Option Value → Mm → Prop} (d : decode cc pc = .ok (.ireturn, 1)) (h : post (some (.int v)) M) : Vj x g y cc nL (some .int) R (Qm x g k sl post) k sl M pc lv [.int v] := fun C H locs ls hE hP hS hl => W.iret C.1 C.2.1 C.2.2.2.2.2.2.1 (fun t ht hW => ⟨⟨_, M, rfl, h, hE, by rw [ht]; exact hP⟩, hS.F ht⟩) hS.2.2 d C.2.2.2.2.2.2.2.1
theorem r_lret {v : Int64} {post : Option Value → Mm → Prop} (d : decode cc pc = .ok (.lreturn, 1)) (h : post (some (.long v)) M) : Vj x g y cc nL (some .long) R (Qm x g k sl post) k sl M pc lv [.long v] := fun C H locs ls hE hP hS hl => W.lret C.1 C.2.1 C.2.2.2.2.2.2.1 (fun t ht hW => ⟨⟨_, M, rfl, h, hE, by rw [ht]; exact hP⟩, hS.F ht⟩) hS.2.2 d C.2.2.2.2.2.2.2.1
theorem r_zret {v : Int32} {post : Option Value → Mm → Prop} (hn : narrow .boolean (.int v) = .int v) (d : decode cc pc = .ok (.ireturn, 1)) (h : post (some (.int v)) M) : Vj x g y cc nL (some .boolean) R (Qm x g k sl post) k sl M pc lv [.int v] := fun C H locs ls hE hP hS hl => W.zret C.1 C.2.1 C.2.2.2.2.2.2.1 hn (fun t ht hW => ⟨⟨_, M, rfl, h, hE, by rw [ht]; exact hP⟩, hS.F ht⟩) hS.2.2 d C.2.2.2.2.2.2.2.1
theorem r_aret {v : Nat} {nm : String} {post : Option Value → Mm → Prop} (d : decode cc pc = .ok (.areturn, 1)) (h : post (some (.ref v)) M) : Vj x g y cc nL (some (.object nm)) R (Qm x g k sl post) k sl M pc lv [.ref v] := fun C H locs ls hE hP hS hl => W.aret C.1 C.2.1 C.2.2.2.2.2.2.1 (Or.inl ⟨_, rfl⟩) (Or.inr ⟨_, rfl⟩) (fun t ht hW => ⟨⟨_, M, rfl, h, hE, by rw [ht]; exact hP⟩, hS.F ht⟩) hS.2.2 d C.2.2.2.2.2.2.2.1
theorem r_ret {post : Option Value → Mm → Prop} (d : decode cc pc = .ok (.return_, 1)) (h : post none M) : Vj x g y cc nL none R (Qm x g k sl post) k sl M pc lv [] := fun C H locs ls hE hP hS hl => W.vret C.1 C.2.1 C.2.2.2.2.2.2.1 (fun t ht hW => ⟨⟨_, M, rfl, h, hE, by rw [ht]; exact hP⟩, hS.F ht⟩) hS.2.2 d C.2.2.2.2.2.2.2.1
end Rows
