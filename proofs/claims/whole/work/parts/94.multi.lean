/-! a grid of 8 by 8 ints -/
def x_mr (comp : ClassId) : Cell := { cls := comp, slots := Array.replicate 8 (.int 0) }
theorem x_m1 {E : CtlPost} {e : Env} {s : State} {d : Bool} {acts : List Action} {comp cc : ClassId} {kc : Class} (hkc : s.vm.classes[comp]? = some kc) (hkind : kc.kind = .array cc .int) (h1 : s.heap.size < e.platform.maxCells) (h2 : s.slotsUsed + 8 ≤ e.platform.maxSlots) (hl : ¬ 8 > e.platform.arrayLengthLimit) (hh : ¬ 8 * 4 > e.platform.maxHeapBytes) {Q : Addr → Pre} (hq : ∀ acts', Q s.heap.size d acts' (s.pushCell (x_mr comp))) :
    wp (multianewarray.make comp [8]) Q E e d acts s := by
  rw [multianewarray.make]
  simp only [wp_bind', W.ite, show ¬ ((8 : Int32) < 0) by decide, if_false, wp_pure', W.theClass, hkc, hkind, Option.some.injEq, exists_eq_left']
  exact W.newArray_of (howMany := (8 : Int32).toNatClampNeg) hkc hkind hl hh h1 h2 rfl hq
theorem x_ml {e : Env} {f : JFrame} (body : Nat → PUnit → Sem (ForInStep PUnit)) (P : Nat → State → Prop)
    (hstep : ∀ (i : Nat) (T : State), i < 8 → P i T → ∃ T', P (i + 1) T' ∧ ∀ (Q : ForInStep PUnit → Pre) (E : CtlPost) (d : Bool) (acts : List Action), (∀ d' acts', Q (.yield PUnit.unit) d' acts' (T'.setTop f)) → wp (body i PUnit.unit) Q E e d acts (T.setTop f)) :
    ∀ (n i : Nat) (T : State), i + n = 8 → P i T → ∃ T', P 8 T' ∧ ∀ (Q : PUnit → Pre) (E : CtlPost) (d : Bool) (acts : List Action), (∀ d' acts', Q PUnit.unit d' acts' (T'.setTop f)) → wp (forIn (List.range' i n 1) PUnit.unit body) Q E e d acts (T.setTop f) := by
  intro n
  induction n with
  | zero =>
    intro i T hi hP
    have : i = 8 := by omega
    subst this
    refine ⟨T, hP, fun Q E d acts h => ?_⟩
    simp only [List.range'_zero, List.forIn_nil, wp_pure']
    exact h d acts
  | succ n ih =>
    intro i T hi hP
    obtain ⟨T1, hP1, h1⟩ := hstep i T (by omega) hP
    obtain ⟨T2, hP2, h2⟩ := ih (i + 1) T1 (by omega) hP1
    refine ⟨T2, hP2, fun Q E d acts h => ?_⟩
    simp only [List.range'_succ, List.forIn_cons, wp_bind']
    exact h1 _ _ _ _ fun d' acts' => h2 _ _ _ _ h
def x_mo (cA : ClassId) (h i : Nat) : Cell := { cls := cA, slots := Array.ofFn (n := 8) fun j => if j.val < i then .ref (h + 1 + j.val) else .null, vm := .none }
theorem x_mo0 (cA : ClassId) (h : Nat) : ({ cls := cA, slots := Array.replicate 8 .null } : Cell) = x_mo cA h 0 := by
  unfold x_mo
  congr 1
theorem x_mo1 (cA : ClassId) (h i : Nat) (hi : i < 8) : (x_mo cA h i).setSlot i (.ref (h + 1 + i)) = x_mo cA h (i + 1) := by
  have key : (x_mo cA h i).slots.setIfInBounds i (.ref (h + 1 + i)) = (x_mo cA h (i + 1)).slots := by
    apply Array.ext_getElem?
    intro j
    rw [Array.getElem?_setIfInBounds]
    simp only [x_mo, Array.getElem?_ofFn, Array.size_ofFn]
    by_cases hj : i = j
    · subst hj
      simp [hi]
    · have : j < i + 1 ↔ j < i := by omega
      simp [hj, this]
  unfold Cell.setSlot
  rw [key]
  rfl
/-- what the heap holds behind i rows -/
def x_mh (H : Heap) (cA comp : ClassId) (i : Nat) (H1 : Heap) : Prop := H1.size = H.size + 1 + i ∧ H1[H.size]? = some (x_mo cA H.size i) ∧ (∀ j, j < i → H1[H.size + 1 + j]? = some (x_mr comp)) ∧ ∀ q : Nat, q < H.size → H1[q]? = H[q]?
section XM
variable {p : Program} {l : Launch} {e : Env} {R : Room} {s : State} {m : MethodId} {args : Array Value} {below : List Frame} {meth : Method} {c : Code} {T : State} {locs : List Loc} {cells slots : Nat}
def x_mp (p : Program) (l : Launch) (e : Env) (R : Room) (s : State) (m : MethodId) (args : Array Value) (below : List Frame) (meth : Method) (c : Code) (locs : List Loc) (cells slots : Nat) (H : Heap) (vm1 : Vm) (cA comp : ClassId) (i : Nat) (T : State) : Prop :=
  ∃ L : List Loc, Stand p l e R s m args below meth c T (locs ++ L) (cells + (1 + i)) (slots + (8 + 8 * i)) ∧ (∀ q ∈ L, q.base = H.size) ∧ x_mh H cA comp i T.heap ∧ T.vm = vm1
theorem x_mstep {H : Heap} {vm1 : Vm} {cA comp cc : ClassId} {kA kC : Class} {f : JFrame} (hkA : vm1.classes[cA]? = some kA) (hkindA : kA.kind = .array comp (.array .int)) (hkC : vm1.classes[comp]? = some kC) (hkindC : kC.kind = .array cc .int) (hl : ¬ 8 > e.platform.arrayLengthLimit) (hh : ¬ 8 * 4 > e.platform.maxHeapBytes) (hcells : cells + 9 ≤ R.cells) (hslots : slots + 72 ≤ R.slots)
    (i : Nat) (T : State) (hi : i < 8) (hP : x_mp p l e R s m args below meth c locs cells slots H vm1 cA comp i T) :
    ∃ T', x_mp p l e R s m args below meth c locs cells slots H vm1 cA comp (i + 1) T' ∧ ∀ (Q : ForInStep PUnit → Pre) (E : CtlPost) (d : Bool) (acts : List Action), (∀ d' acts', Q (.yield PUnit.unit) d' acts' (T'.setTop f)) → wp (do let a ← multianewarray.make comp [8]; Jvm.writeLoc H.size i (.ref a); Pure.pure (ForInStep.yield PUnit.unit)) Q E e d acts (T.setTop f) := by
  obtain ⟨L, X, hL, ⟨z1, z2, z3, z4⟩, hvm⟩ := hP
  obtain ⟨r1, r2⟩ := X.roomAbove (a := 1) (b := 8) (by omega) (by omega)
  have hlt : H.size < T.heap.size := by rw [z1]; omega
  have hcell : (T.pushCell (x_mr comp)).heap[H.size]? = some (x_mo cA H.size i) := by rw [State.heap_pushCell_of_lt (h := hlt)]; exact z2
  have hsz : (x_mr comp).slots.size = 8 := by simp [x_mr]
  have X1 := X.pushed (x_mr comp)
  have X2 := X1.stored hcell i (.ref (H.size + 1 + i))
  rw [x_mo1 cA H.size i hi, hsz] at X2
  refine ⟨(T.pushCell (x_mr comp)).setCell H.size (x_mo cA H.size (i + 1)), ⟨L ++ [⟨H.size, i⟩], ?_, ?_, ⟨?_, ?_, ?_, ?_⟩, hvm⟩, fun Q E d acts h => ?_⟩
  · rw [← List.append_assoc, show cells + (1 + (i + 1)) = cells + (1 + i) + 1 by omega, show slots + (8 + 8 * (i + 1)) = slots + (8 + 8 * i) + 8 by omega]
    exact X2
  · intro q hq
    rcases List.mem_append.mp hq with h | h
    · exact hL q h
    · rw [List.mem_singleton.mp h]
  · show ((T.pushCell (x_mr comp)).heap.setIfInBounds _ _).size = _
    simp [z1]
    omega
  · exact State.heap_setCell_self hcell
  · intro j hj
    rw [State.heap_setCell_other (show H.size ≠ H.size + 1 + j by omega)]
    by_cases hji : j < i
    · have h9 : H.size + 1 + j < T.heap.size := by rw [z1]; omega
      rw [State.heap_pushCell_of_lt (h := h9)]
      exact z3 j hji
    · have : j = i := by omega
      subst this
      rw [← z1]
      exact State.heap_pushCell_size _ _
  · intro q hq
    have h9 : q < T.heap.size := by rw [z1]; omega
    rw [State.heap_setCell_other (Nat.ne_of_gt hq), State.heap_pushCell_of_lt (h := h9)]
    exact z4 q hq
  · simp only [wp_bind']
    refine x_m1 (s := T.setTop f) (kc := kC) (cc := cc) (by show T.vm.classes[comp]? = _; rw [hvm]; exact hkC) hkindC r1 r2 hl hh fun acts' => ?_
    simp only [wp_bind', W.writeLoc, wp_pure']
    refine ⟨x_mo cA H.size i, hcell, (fun q => by cases q), by simp [x_mo]; exact hi, ?_, ?_⟩
    · rw [State.pushCell_setTop, State.fitsSlot_setTop]
      simp [State.fitsSlot, State.slotType?, x_mo, hvm, hkA, hkindA, fits]
    · have e1 : (T.setTop f).heap.size = H.size + 1 + i := z1
      rw [e1, x_mo1 cA H.size i hi]
      exact h _ _
theorem x_ms (X : Stand p l e R s m args below meth c T locs cells slots) (hexec : p.tables.exec = Jvm.exec) {own : String} {index : Nat} (hown : s.vm.findClass own = some m.cls) {cA comp cc : ClassId} {kA kC : Class} {nm : String} (hclink : (Cond.classLink own index nm).before args s = true) (hfA : s.vm.findClass nm = some cA) (hkA : s.vm.classes[cA]? = some kA) (hkindA : kA.kind = .array comp (.array .int)) (hkC : s.vm.classes[comp]? = some kC) (hkindC : kC.kind = .array cc .int)
    {g : JFrame} (hg : g.method = m) (hdg : decode c.code g.pc = .ok (.multianewarray index 2, 4)) {rest : List Value} (hstack : g.stack = .int 8 :: .int 8 :: rest) (hcells : cells + 9 ≤ R.cells) (hslots : slots + 72 ≤ R.slots) :
    ∃ (T' : State) (L : List Loc), Stand p l e R s m args below meth c T' (locs ++ L) (cells + 9) (slots + 72) ∧ (∀ q ∈ L, q.base = T.heap.size) ∧ x_mh T.heap cA comp 8 T'.heap ∧
      ∀ target, Steps p.tables e below (T'.setTop { g with pc := g.pc + 4, stack := .ref T.heap.size :: rest }) target → Steps p.tables e below (T.setTop g) target := by
  subst hg
  have hpl : e.platform.magicAccessors = ({} : Platform).magicAccessors := by rw [X.admits.platform]
  obtain ⟨c0, hfc0, hcl⟩ := Cond.classLink_spec hown hclink e.platform hpl
  cases hfA.symm.trans hfc0
  obtain ⟨hg₁, hwarm₁, hready₁⟩ := State.classEntry (e := e) X.warmed hcl
  generalize T.vm.noted g.method.cls index (.cls cA) = vm₁ at hg₁ hwarm₁ hready₁
  have hal : s.vm.Alike vm₁ := hwarm₁.alike
  obtain ⟨kA₁, hkA₁, heA⟩ := hal.2.2 _ _ hkA
  obtain ⟨kC₁, hkC₁, heC⟩ := hal.2.2 _ _ hkC
  have hkindA₁ : kA₁.kind = .array comp (.array .int) := by rw [heA]; exact hkindA
  have hkindC₁ : kC₁.kind = .array cc .int := by rw [heC]; exact hkindC
  have hl : ¬ 8 > e.platform.arrayLengthLimit := by rw [Launch.admits_arrayLengthLimit X.admits]; omega
  have hh : ¬ 8 * 4 > e.platform.maxHeapBytes := by rw [Launch.admits_maxHeapBytes X.admits]; omega
  obtain ⟨r1, r2⟩ := X.roomAbove (a := 1) (b := 8) (by omega) (by omega)
  have X₁ := (X.noted hwarm₁).pushed (x_mo cA T.heap.size 0)
  have hsz : (x_mo cA T.heap.size 0).slots.size = 8 := by simp [x_mo]
  rw [hsz] at X₁
  have P0 : x_mp p l e R s g.method args below meth c locs cells slots T.heap vm₁ cA comp 0 ((T.setVm vm₁).pushCell (x_mo cA T.heap.size 0)) :=
    ⟨[], by rw [List.append_nil]; exact X₁, fun q h => (by cases h), ⟨by simp [State.pushCell], State.heap_pushCell_size _ _, fun j h => absurd h (Nat.not_lt_zero _), fun q hq => State.heap_pushCell_of_lt (s := T.setVm vm₁) (h := hq) ..⟩, rfl⟩
  obtain ⟨T', ⟨L, XF, hL, hH, hvm⟩, hw⟩ := x_ml (e := e) (f := { g with stack := rest }) (fun i _ => do let a ← multianewarray.make comp [8]; Jvm.writeLoc T.heap.size i (.ref a); Pure.pure (ForInStep.yield PUnit.unit)) (x_mp p l e R s g.method args below meth c locs cells slots T.heap vm₁ cA comp) (fun i T hi hP => x_mstep (f := { g with stack := rest }) hkA₁ hkindA₁ hkC₁ hkindC₁ hl hh hcells hslots i T hi hP) 8 0 _ rfl P0
  refine ⟨T', L, XF, hL, hH, fun target hrest => ?_⟩
  jvm_step X.here [hexec, hdg]
  simp only [multianewarray.sem, wp_bind', W.resolveClassAt_links (State.method?_setTop g X.here.top) hg₁]
  show wp (Jvm.popN [Value.int 8, Value.int 8].length) _ _ e _ _ ((T.setVm vm₁).setTop g)
  rw [popN_top (s := T.setVm vm₁) (f := g) X.here.top (args := [Value.int 8, Value.int 8]) (rest := rest) hstack]
  simp only [List.mapM_cons, List.mapM_nil, wp_bind', wp_pure']
  rw [multianewarray.make]
  simp only [wp_bind', W.ite, show ¬ ((8 : Int32) < 0) by decide, if_false, wp_pure', W.theClass, hkA₁, hkindA₁, Option.some.injEq, exists_eq_left']
  refine ⟨kA₁, hkA₁, ?_⟩
  rw [hkindA₁]
  simp only [wp_bind']
  refine W.newArray_of (s := (T.setVm vm₁).setTop { g with stack := rest }) (howMany := (8 : Int32).toNatClampNeg) (init := .null) hkA₁ hkindA₁ hl hh r1 r2 rfl fun acts' => ?_
  rw [if_neg (by decide), wp_bind', Std.Legacy.Range.forIn_eq_forIn_range']
  refine hw _ _ _ _ fun d' acts' => ?_
  simp only [wp_pure', wp_bind', W.mark, W.pushRef, State.topJava?_setTop' _ XF.here.top, Option.some.injEq, exists_eq_left', State.setTop_setTop, State.heap_setTop]
  intro acts
  first
    | (rw [afterInstr_ok]; exact hrest)
    | (simp [jvm, XF.here.top]; exact hrest)
    | fail
end XM
