/-! The method contract of this proof (f_C): from any state whose heap holds the flat memory z, the method ends with the outcome o, and the heap holds z'. Its room: d frames, u new cells of six slots. And what ends a walk: a return, a throw. -/
def f_rm (d u : Nat) : Room := { frames := d, cells := u, slots := 6 * u, locals := 40 * d }
def f_Pc (L : Nat → Nat → Nat) (Ar : Nat → ClassId) (D : va_G) (b0 : Nat) (as : List Value) (z : fST) : Array Value → State → Prop :=
  fun v U => v = as.toArray ∧ b0 ≤ U.heap.size ∧ f_K Ar D U ∧ f_Z b0 U U.heap ∧ f_W L Ar D z U.heap
def f_oc (o : Option Value ⊕ Nat) (st : State) (oc : Outcome) (t : State) : Prop := match o with
  | .inl v => oc = .returned v
  | .inr n => ∃ (q : Addr) (ce : Cell), oc = .threw q ∧ t.heap[q]? = some ce ∧ ce.vm = .none ∧ st.vm.findClass (f_exc n) = some ce.cls
def f_Qc (L : Nat → Nat → Nat) (Ar : Nat → ClassId) (D : va_G) (b0 u : Nat) (o : Option Value ⊕ Nat) (z' : fST) : Array Value → State → Outcome → State → Prop :=
  fun _ st oc t => f_oc o st oc t ∧ f_W L Ar D z' t.heap ∧ va_F (f_A b0) st t ∧ ∃ Lc : List Loc, st.WarmedH t.vm ∧ st.sameButNew ({ t with vm := st.vm } : State) Lc u (6 * u) ∧ ∀ q ∈ Lc, b0 ≤ q.base
def f_C (l : Launch) (y : MethodName) (ws : List Cond) (d u : Nat) (L : Nat → Nat → Nat) (Ar : Nat → ClassId) (D : va_G) (b0 : Nat) (as : List Value) (z : fST) (o : Option Value ⊕ Nat) (z' : fST) : Prop :=
  MetFree l y (headSpec ws (f_rm d u)) (f_Pc L Ar D b0 as z) (fun _ _ _ _ _ => True) (f_Qc L Ar D b0 u o z')
/-- what a walk owes at its end -/
def f_E (below : List Frame) (args : Array Value) (s : State) (L : Nat → Nat → Nat) (Ar : Nat → ClassId) (D : va_G) (b0 u : Nat) (o : Option Value ⊕ Nat) (z' : fST) : State → Prop :=
  fun t => ∃ oc, t.status = .running ∧ Ended t below oc ∧ f_Qc L Ar D b0 u o z' args s oc t
/-- a block of a method: from every heap that holds z, with these locals and this stack -/
def f_B (p : Program) (l : Launch) (e : Env) (R : Room) (s : State) (m : MethodId) (args : Array Value) (below : List Frame) (meth : Method) (c : Code) (L : Nat → Nat → Nat) (Ar : Nat → ClassId) (D : va_G) (b0 nL u : Nat) (Q : State → Prop) (rem pc : Nat) (lv : List (Nat × Value)) (st : List Value) (z : fST) : Prop :=
  ∀ (H : Heap) (locs : List Loc) (ls : Array Slot) (cells slots : Nat), f_W L Ar D z H → va_S (f_A b0) s.heap H locs → lv_has ls nL lv → cells + rem ≤ u → slots + 6 * rem ≤ 6 * u → W p l e R s m args below meth c H locs cells slots Q (F0 m pc ls st)
theorem f_met {l : Launch} {y : MethodName} {ws : List Cond} {d u : Nat} {L : Nat → Nat → Nat} {Ar : Nat → ClassId} {D : va_G} {b0 : Nat} {as : List Value} {z z' : fST} {v : Option Value} (h : f_C l y ws d u L Ar D b0 as z (.inl v) z') :
    Met l y ws (f_rm d u) (f_Pc L Ar D b0 as z) (fun _ st oc t => oc = .returned v ∧ f_W L Ar D z' t.heap ∧ va_F (f_A b0) st t) u (6 * u) (f_A b0) := by
  intro p e ha hc hk s m args below hf happ hP hK
  obtain ⟨n, o, h1, h2, h3, ho, hW, hF, Lc, w1, w2, w3⟩ := h p e ha hc hk s m args below hf happ hP hK
  exact ⟨n, o, h1, h2, h3, ⟨ho, hW, hF⟩, Lc, ⟨⟨v, ho⟩, w1, w2⟩, w3⟩
section FC
variable {p : Program} {l : Launch} {e : Env} {R : Room} {s : State} {m : MethodId} {args : Array Value} {below : List Frame} {meth : Method} {c : Code} {H : Heap} {locs : List Loc} {cells slots : Nat} {Q : State → Prop}
variable {cc : ByteArray} {pc : Nat} {ls : Array Slot} {rest : List Value} {L : Nat → Nat → Nat} {Ar : Nat → ClassId} {D : va_G} {b0 u : Nat} {z z' : fST}
theorem f_endR {v : Option Value} {g : JFrame} (k : W p l e R s m args below meth c H locs u (6 * u) (MQ below (fun _ st oc t => oc = .returned v ∧ f_W L Ar D z' t.heap ∧ va_F (f_A b0) st t) args s u (6 * u) (f_A b0)) g) (hc : cells ≤ u) (hs : slots ≤ 6 * u) :
    W p l e R s m args below meth c H locs cells slots (f_E below args s L Ar D b0 u (.inl v) z') g := by
  refine W.widen hc hs ?_
  intro T hT X
  obtain ⟨t, a1, o, b1, b2, ⟨b3, b4, b5⟩, Lc, ⟨-, w1, w2⟩, w3⟩ := k T hT X
  exact ⟨t, a1, o, b1, b2, b3, b4, b5, Lc, w1, w2, w3⟩
theorem hw_iret {v r : Int32} {ty : FieldType} (hx : p.tables.exec = Jvm.exec) (hb : c.code = cc) (hr : meth.sig.returnType = some ty) (hlk : meth.locks = false) (hn : narrow ty (.int v) = .int v) (hW : f_W L Ar D z H) (hS : va_S (f_A b0) s.heap H locs) (hc : cells ≤ u) (hs : slots ≤ 6 * u) (hd : decode cc pc = .ok (.ireturn, 1)) (hF : some (v, z) = some (r, z')) :
    W p l e R s m args below meth c H locs cells slots (f_E below args s L Ar D b0 u (.inl (some (.int r))) z') (F0 m pc ls [.int v]) := by
  cases hF
  exact f_endR (W.zret hx hb hr hn (fun t ht _ => ⟨rfl, by rw [ht]; exact hW, hS.F ht⟩) hS.2.2 hd hlk) hc hs
theorem hw_vret {r : Unit} (hx : p.tables.exec = Jvm.exec) (hb : c.code = cc) (hr : meth.sig.returnType = none) (hlk : meth.locks = false) (hW : f_W L Ar D z H) (hS : va_S (f_A b0) s.heap H locs) (hc : cells ≤ u) (hs : slots ≤ 6 * u) (hd : decode cc pc = .ok (.return_, 1)) (hF : some ((), z) = some (r, z')) :
    W p l e R s m args below meth c H locs cells slots (f_E below args s L Ar D b0 u (.inl none) z') (F0 m pc ls []) := by
  cases hF
  exact f_endR (W.vret hx hb hr (fun t ht _ => ⟨rfl, by rw [ht]; exact hW, hS.F ht⟩) hS.2.2 hd hlk) hc hs
/-- a reference that may be null: which object of kind k -/
def f_rv (L : Nat → Nat → Nat) (k : Nat) (r : Option Nat) : Value := match r with
  | none => .null
  | some i => .ref (L k i)
theorem hw_aret0 {r : Option Nat} {k : Nat} {ty : FieldType} (hx : p.tables.exec = Jvm.exec) (hb : c.code = cc) (hr : meth.sig.returnType = some ty) (hrt : (∃ n, ty = .object n) ∨ ∃ t, ty = .array t) (hlk : meth.locks = false) (hW : f_W L Ar D z H) (hS : va_S (f_A b0) s.heap H locs) (hc : cells ≤ u) (hs : slots ≤ 6 * u) (hd : decode cc pc = .ok (.areturn, 1)) (hF : some ((none : Option Nat), z) = some (r, z')) :
    W p l e R s m args below meth c H locs cells slots (f_E below args s L Ar D b0 u (.inl (some (f_rv L k r))) z') (F0 m pc ls [.null]) := by
  cases hF
  exact f_endR (W.aret hx hb hr hrt (Or.inl rfl) (fun t ht _ => ⟨rfl, by rw [ht]; exact hW, hS.F ht⟩) hS.2.2 hd hlk) hc hs
theorem hw_aret {r : Option Nat} {k i : Nat} {ty : FieldType} (hx : p.tables.exec = Jvm.exec) (hb : c.code = cc) (hr : meth.sig.returnType = some ty) (hrt : (∃ n, ty = .object n) ∨ ∃ t, ty = .array t) (hlk : meth.locks = false) (hW : f_W L Ar D z H) (hS : va_S (f_A b0) s.heap H locs) (hc : cells ≤ u) (hs : slots ≤ 6 * u) (hd : decode cc pc = .ok (.areturn, 1)) (hF : some (some i, z) = some (r, z')) :
    W p l e R s m args below meth c H locs cells slots (f_E below args s L Ar D b0 u (.inl (some (f_rv L k r))) z') (F0 m pc ls [.ref (L k i)]) := by
  cases hF
  exact f_endR (W.aret hx hb hr hrt (Or.inr ⟨_, rfl⟩) (fun t ht _ => ⟨rfl, by rw [ht]; exact hW, hS.F ht⟩) hS.2.2 hd hlk) hc hs
/-- what comes of a method that may throw -/
def f_oi : Int32 ⊕ Nat → Option Value ⊕ Nat
  | .inl v => .inl (some (.int v))
  | .inr n => .inr n
def f_ov : Unit ⊕ Nat → Option Value ⊕ Nat
  | .inl _ => .inl none
  | .inr n => .inr n
theorem hw_iretX {v : Int32} {r : Int32 ⊕ Nat} {ty : FieldType} (hx : p.tables.exec = Jvm.exec) (hb : c.code = cc) (hr : meth.sig.returnType = some ty) (hlk : meth.locks = false) (hn : narrow ty (.int v) = .int v) (hW : f_W L Ar D z H) (hS : va_S (f_A b0) s.heap H locs) (hc : cells ≤ u) (hs : slots ≤ 6 * u) (hd : decode cc pc = .ok (.ireturn, 1)) (hF : some ((.inl v : Int32 ⊕ Nat), z) = some (r, z')) :
    W p l e R s m args below meth c H locs cells slots (f_E below args s L Ar D b0 u (f_oi r) z') (F0 m pc ls [.int v]) := by
  cases hF
  exact f_endR (W.zret hx hb hr hn (fun t ht _ => ⟨rfl, by rw [ht]; exact hW, hS.F ht⟩) hS.2.2 hd hlk) hc hs
theorem hw_vretX {r : Unit ⊕ Nat} (hx : p.tables.exec = Jvm.exec) (hb : c.code = cc) (hr : meth.sig.returnType = none) (hlk : meth.locks = false) (hW : f_W L Ar D z H) (hS : va_S (f_A b0) s.heap H locs) (hc : cells ≤ u) (hs : slots ≤ 6 * u) (hd : decode cc pc = .ok (.return_, 1)) (hF : some ((.inl () : Unit ⊕ Nat), z) = some (r, z')) :
    W p l e R s m args below meth c H locs cells slots (f_E below args s L Ar D b0 u (f_ov r) z') (F0 m pc ls []) := by
  cases hF
  exact f_endR (W.vret hx hb hr (fun t ht _ => ⟨rfl, by rw [ht]; exact hW, hS.F ht⟩) hS.2.2 hd hlk) hc hs
/-- behind a call that returns -/
theorem hw_go {v : Option Value} {st0 : List Value} {uc : Nat} (hr : va_Run p l e R s m args below meth c H locs cells slots uc (6 * uc) (F0 m pc ls st0) rest (fun st oc t => oc = .returned v ∧ f_W L Ar D z' t.heap ∧ va_F (f_A b0) st t) (f_A b0)) (hS : va_S (f_A b0) s.heap H locs)
    (kk : ∀ (H1 : Heap) (locs1 : List Loc), f_W L Ar D z' H1 → va_S (f_A b0) s.heap H1 locs1 → W p l e R s m args below meth c H1 locs1 (cells + uc) (slots + 6 * uc) Q (F0 m (pc + 3) ls (v.toList ++ rest))) : W p l e R s m args below meth c H locs cells slots Q (F0 m pc ls st0) := by
  intro T hT X
  obtain ⟨v', st₀, t, T', Lc, h0, X', hL, e1, e2, ⟨hv, hw, hz, hk⟩, st⟩ := hr T hT X
  cases hv
  rw [h0] at hz hk
  obtain ⟨t2, a1, b1⟩ := kk T'.heap (locs ++ Lc) (by rw [e1]; exact hw)
    ⟨Nat.le_trans hS.1 (by rw [e1]; exact hz), fun q h1 h2 => by rw [e1, hk q (Nat.lt_of_lt_of_le h1 hS.1) h2]; exact hS.2.1 q h1 h2, fun q hq => by
      rcases List.mem_append.mp hq with h | h
      · exact hS.2.2 q h
      · exact hL q h⟩ T' rfl X'
  exact ⟨t2, st t2 a1, b1⟩
end FC
/-- a method's contract out of the walk of its body -/
theorem f_ofW {l : Launch} {y : MethodName} {ws : List Cond} {d u : Nat} {L : Nat → Nat → Nat} {Ar : Nat → ClassId} {D : va_G} {b0 : Nat} {as : List Value} {z z' : fST} {o : Option Value ⊕ Nat} {cc : ByteArray} {maxL : Nat} {ret : Option FieldType} (hy : plainName y.cls = true) (hcw : Cond.code y cc maxL ret ∈ ws) (hlen : (lg_sl as).length ≤ maxL)
    (body : ∀ (p : Program) (e : Env) (s : State) (m : MethodId) (args : Array Value) (below : List Frame) (meth : Method) (c : Code) (R : Room), R.frames = d → R.locals = 40 * d → R.cells = u → R.slots = 6 * u → p.tables.exec = Jvm.exec → c.code = cc → meth.sig.returnType = ret → meth.locks = false → c.maxLocals = maxL → (∀ x ∈ c.exceptionTable.toList, False) → (∀ w ∈ ws, w.before args s = true) → s.vm.findClass y.cls = some m.cls → f_K Ar D s → f_Z b0 s s.heap → b0 ≤ s.heap.size →
      f_B p l e R s m args below meth c L Ar D b0 maxL u (f_E below args s L Ar D b0 u o z') u 0 (lv_args 0 as) [] z) : f_C l y ws d u L Ar D b0 as z o z' := by
  refine MetFree.of_bodyS (code := cc) (maxLocals := maxL) (ret := ret) hy ?_ ?_
  · intro args s m h hn
    obtain ⟨meth, c, h1, h2, h3, h4, h5, h6, -, -⟩ := Cond.code_spec hn (atoms_spec (ws := ws) h _ hcw)
    exact ⟨meth, c, h1, h2, h3, h4, h5, h6⟩
  · intro p e s m args below meth c s₁ B hml hP _
    obtain ⟨rfl, hsz, hK, hZ, hW⟩ := hP
    have hts := atoms_spec (ws := ws) B.pre
    have hh0 : s₁.heap = s.heap := by rw [B.state]; rfl
    have hemp : c.exceptionTable.isEmpty = true := BodyLoose.noHandlers B (hts _ hcw)
    have hno : ∀ x ∈ c.exceptionTable.toList, False := by
      intro x hx
      rw [Array.isEmpty_iff.mp hemp] at hx
      cases hx
    have hB := body p e s m as.toArray below meth c (headSpec ws (f_rm d u)).room rfl rfl rfl rfl B.exec B.bytes B.returns B.notSynchronized hml hno hts (findClass_of_methodNamed B.named) hK hZ hsz s.heap [] _ 0 0 hW va_S.rf (lv_entry as hlen) (by omega) (by omega)
    rw [← lg_entry_eq (m := m)] at hB
    obtain ⟨t, a1, o', b1, b2, b3⟩ := hB s₁ hh0 (Stand.of_body B)
    exact ⟨t, o', a1, b1, b2, b3⟩
