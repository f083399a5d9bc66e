/-! Constructors. x_K: what the tables say; x_A: the object's own cell and what is new; x_C: the contract of a constructor: from a cell h0 with the fields e0 it comes to the world w h0 u, for some u (the addresses of what it made). -/
def x_O (Ar : Nat → ClassId) (U : State) : Prop := va_AO "BottleReturn$Container" U ∧ ∃ k : Class, U.vm.classes[Ar 4]? = some k ∧ k.kind = .array (Ar 0) (.array .int)
theorem x_O.moved {Ar : Nat → ClassId} {u U : State} (hvm : u.vm.Alike U.vm) (h : x_O Ar u) : x_O Ar U := by
  obtain ⟨h1, k, h2, h3⟩ := h
  obtain ⟨k', hk', he⟩ := hvm.2.2 _ _ h2
  exact ⟨h1.moved hvm, k', hk', by rw [he]; exact h3⟩
def x_K (Ar : Nat → ClassId) (D : va_G) (U : State) : Prop := f_K Ar D U ∧ f_N U ∧ x_O Ar U
theorem x_K.moved {Ar : Nat → ClassId} {D : va_G} {u U : State} (hW : u.WarmedH U.vm) (h : x_K Ar D u) : x_K Ar D U := ⟨va_K.moved hW.alike h.1, h.2.1.moved hW, h.2.2.moved hW.alike⟩
def x_A (h0 sz : Nat) : Nat → Prop := fun q => q = h0 ∨ sz ≤ q
def x_Pc (D : va_G) (Ar : Nat → ClassId) (as : List Value) (h0 sz : Nat) (e0 : va_E) : Array Value → State → Prop := va_Pc (.ref h0 :: as) (fun U => U.heap.size = sz ∧ va_P D vwCl [(h0, e0)] U.heap ∧ x_K Ar D U)
def x_Qc {S : Type} (D : va_G) (h0 sz : Nat) (w : Nat → S → va_W) : Array Value → State → Outcome → State → Prop := va_Qv (fun _ : S => True) (fun u t => va_P D vwCl (w h0 u) t.heap ∧ va_D (x_A h0 sz) (w h0 u)) (x_A h0 sz)
def x_rm (d mc ms : Nat) : Room := { frames := d, cells := mc, slots := ms, locals := 40 * d }
def x_C {S : Type} (l : Launch) (y : MethodName) (bytes : ByteArray) (maxL d mc ms : Nat) (D : va_G) (Ar : Nat → ClassId) (as : List Value) (e0 : va_E) (w : Nat → S → va_W) : Prop :=
  ∀ h0 sz : Nat, Met l y (.code y bytes maxL none :: wt) (x_rm d mc ms) (x_Pc D Ar as h0 sz e0) (x_Qc D h0 sz w) mc ms (x_A h0 sz)
theorem x_good {y : MethodName} {bytes : ByteArray} {maxL : Nat} (h : Cond.code y bytes maxL none ∈ wt) : GoodIn wt (.code y bytes maxL none :: wt) := by
  have key : ∀ w ∈ wt, w ∈ wt ∧ ((w.onTables && w.keeps) = true ∨ ∃ ty, w = .arrayClass ty) := fun w hw => ⟨hw, good_of_word (List.mem_filter.mp hw).2⟩
  intro w hw
  rcases List.mem_cons.mp hw with e | e
  · rw [e]; exact key _ h
  · exact key w e
theorem x_ofW {S : Type} {l : Launch} {y : MethodName} {bytes : ByteArray} {maxL d mc ms : Nat} {D : va_G} {Ar : Nat → ClassId} {as : List Value} {e0 : va_E} {w : Nat → S → va_W} (hy : plainName y.cls = true) (hy1 : y.name = "<init>") (hlen : ∀ h0 : Nat, (lg_sl (.ref h0 :: as)).length ≤ maxL)
    (body : ∀ (p : Program) (e : Env) (s : State) (m : MethodId) (args : Array Value) (below : List Frame) (meth : Method) (c : Code) (R : Room) (h0 : Nat) (ls : Array Slot), R.frames = d → R.locals = 40 * d → R.cells = mc → R.slots = ms → p.tables.exec = Jvm.exec → c.code = bytes → meth.sig.returnType = none → meth.locks = false → c.maxLocals = maxL → meth.name = "<init>" → (∀ w ∈ wt, w.before args s = true) → s.vm.findClass y.cls = some m.cls → x_K Ar D s →
      lv_has ls maxL (lv_args 0 (.ref h0 :: as)) → va_P D vwCl [(h0, e0)] s.heap → va_D (x_A h0 s.heap.size) [(h0, e0)] → W p l e R s m args below meth c s.heap [] 0 0 (MQ below (x_Qc D h0 s.heap.size w) args s mc ms (x_A h0 s.heap.size)) (F0 m 0 ls [])) : x_C l y bytes maxL d mc ms D Ar as e0 w := by
  intro h0 sz
  refine Met.ofW (cc := bytes) (maxL := maxL) (ret := none) hy rfl ?_
  intro p e s m args below meth c s₁ B hml hv
  obtain ⟨rfl, hsz, hP, hK⟩ := hv
  subst hsz
  have hts := atoms_spec (ws := .code y bytes maxL none :: wt) B.pre
  have hnm : meth.name = "<init>" := ((name_of_methodNamed B.named B.method).1).trans hy1
  rw [lg_entry_eq]
  refine body p e s m _ below meth c _ h0 _ rfl rfl rfl rfl B.exec B.bytes B.returns B.notSynchronized hml hnm (fun w hw => hts w (List.mem_cons_of_mem _ hw)) (findClass_of_methodNamed B.named) hK (lv_entry _ (hlen h0)) hP ⟨fun i j p q hp hq _ => ?_, fun k q hq => ?_⟩
  · have hi : i < 1 := (List.getElem?_eq_some_iff.mp hp).1
    have hj : j < 1 := (List.getElem?_eq_some_iff.mp hq).1
    omega
  · have hk : k < 1 := (List.getElem?_eq_some_iff.mp hq).1
    have : k = 0 := by omega
    subst this
    cases hq
    exact Or.inl rfl
/-- a field of the class ci, at its place in the constant pool of its own class -/
def x_fp (own : String) (index ci k : Nat) (fin : Bool) (ty : FieldType) : Prop := ∃ (T : u_T) (N : Nat) (ty0 : Nat → FieldType), vwCl[ci]? = some (own, T, N) ∧ k < N ∧ (∀ w ∈ u_ws own T N, w ∈ wt) ∧ (T k).1 = own ∧ Cond.fieldLink own index own (T k).2.1 (T k).2.2.1 ∈ wt ∧ (∀ a, a < N → parseFieldDescriptor (T a).2.2.1 = some (ty0 a)) ∧ (∀ a, a < N → ∀ b, b < N → a ≠ b → (T a).2.1 ≠ (T b).2.1) ∧ (T k).2.2.2 = fin ∧ parseFieldDescriptor (T k).2.2.1 = some ty
/-- a class that is made: its place in the constant pool of the maker -/
def x_nw (own : String) (index ci N : Nat) (fs : List Value) : Prop := ∃ (C : String) (T : u_T) (ty0 : Nat → FieldType), vwCl[ci]? = some (C, T, N) ∧ (∀ w ∈ u_ws C T N, w ∈ wt) ∧ (∀ a, a < N → parseFieldDescriptor (T a).2.2.1 = some (ty0 a)) ∧ Cond.classLink own index C ∈ wt ∧ Cond.instantiable C N ∈ wt ∧ Cond.initialized C ∈ wt ∧ ∀ j, j < N → defaultValue (ty0 j) = vp_V fs j
section XR
variable {p : Program} {l : Launch} {e : Env} {R : Room} {s : State} {m : MethodId} {args : Array Value} {below : List Frame} {meth : Method} {c : Code} {H : Heap} {locs : List Loc} {cells slots : Nat} {Q : State → Prop}
variable {cc : ByteArray} {pc : Nat} {ls : Array Slot} {rest : List Value} {D : va_G} {Ar : Nat → ClassId} {A : Nat → Prop} {ws : va_W} {own : String}
/-- the call of Object's constructor -/
theorem x_obj {h0 index nL : Nat} (hx : p.tables.exec = Jvm.exec) (hb : c.code = cc) (hml : c.maxLocals = nL) (hown : s.vm.findClass own = some m.cls) (hts : ∀ w ∈ wt, w.before args s = true) (hfr : 1 ≤ R.frames) (hlo : 40 ≤ R.locals) (hl : Cond.methodLink own index objectInit ∈ wt) (hi : Cond.instanceMethod objectInit ∈ wt) (hc : Cond.code objectInit ⟨#[0xb1]⟩ 1 none ∈ wt) {lv : List (Nat × Value)} (hlv : lv_has ls nL ((0, .ref h0) :: lv)) (d0 : decode cc 0 = .ok (.aload_n 0, 1)) (d1 : decode cc 1 = .ok (.invokespecial index, 3))
    (kk : W p l e R s m args below meth c H locs cells slots Q (F0 m 4 ls [])) : W p l e R s m args below meth c H locs cells slots Q (F0 m 0 ls []) := by
  refine lv_aload_n hx hb d0 rfl (lv_at hlv 0 rfl) ?_
  refine W.objInit hx hb hown (hts _ hl) (hts _ hi) (hts _ hc) rfl (by rw [hml]; exact hlv.1) rfl d1 hfr (Nat.le_trans (Nat.le_of_ble_eq_true rfl) hlo) ?_
  exact kk
theorem x_newa {atype : ArrayType} {ty : FieldType} {n : Int32} {N : Nat} {a0 : (Nat → Int32) ⊕ (Nat → Int64) ⊕ (Nat → UInt32) ⊕ (Nat → UInt64) ⊕ (Nat → Option Nat)} (t : Nat) (hx : p.tables.exec = Jvm.exec) (hb : c.code = cc) (hts : ∀ w ∈ wt, w.before args s = true) (harr : Cond.arrayClass (newarray.typeOf atype) ∈ wt) (hty : newarray.typeOf atype = ty) (htt : (f_tys Ar)[t]? = some (Ar t, ty)) (hK : f_K Ar D s) (hP : va_P D vwCl ws H) (hD : va_D A ws) (hS : va_S A s.heap H locs) (hA : ∀ q, s.heap.size ≤ q → A q) (ha : ∀ cA : ClassId, vp_cell cA (N, a0) = arrV cA N (fun _ => defaultValue ty)) (hn : ¬ n < 0) (hN : n.toNatClampNeg = N) (hbytes : N * componentBytes ty ≤ 536870912) (hcells : cells + 1 ≤ R.cells) (hslots : slots + N ≤ R.slots) (hdg : decode cc pc = .ok (.newarray atype, 2))
    (kk : ∀ (q : Nat) (H1 : Heap), va_P D vwCl (ws ++ [(q, .inl (Ar t, N, a0))]) H1 → va_D A (ws ++ [(q, .inl (Ar t, N, a0))]) → va_S A s.heap H1 locs → W p l e R s m args below meth c H1 locs (cells + 1) (slots + N) Q (F0 m (pc + 2) ls (.ref q :: rest))) : W p l e R s m args below meth c H locs cells slots Q (F0 m pc ls (.int n :: rest)) := by
  refine va_newa hx hb (hts _ harr) hty hK hP hD hS hA ha hn hN hbytes hcells hslots hdg (fun q cA H1 hK1 hP1 hD1 hS1 => ?_)
  have e1 := (hK1.2 5 (cA, ty) rfl).2
  have e2 := (hK.2 t _ htt).2
  have hc : cA = Ar t := by
    cases ty with
    | object C =>
      obtain ⟨_, _, _, _, _, g1⟩ := e1
      obtain ⟨_, _, _, _, _, g2⟩ := e2
      exact Option.some.inj (g1.symm.trans g2)
    | _ => exact Option.some.inj (Eq.trans (Eq.symm e1) e2)
  subst hc
  exact kk q H1 hP1 hD1 hS1
theorem x_putF {index ci k h0 : Nat} {ty : FieldType} {fs : List Value} {v : Value} {W0 : va_W} (hx : p.tables.exec = Jvm.exec) (hb : c.code = cc) (hts : ∀ w ∈ wt, w.before args s = true) (hown : s.vm.findClass own = some m.cls) (hin : meth.name = "<init>") (hK : f_K Ar D s) (hP : va_P D vwCl ((h0, .inr (ci, fs)) :: W0) H) (hD : va_D A ((h0, .inr (ci, fs)) :: W0)) (hS : va_S A s.heap H locs) (fp : x_fp own index ci k true ty) (hn : narrow ty v = v) (hfit : fits ty v = true) (hl : k < fs.length) (hdg : decode cc pc = .ok (.putfield index, 3))
    (kk : ∀ (H1 : Heap) (locs1 : List Loc), va_P D vwCl ((h0, .inr (ci, fs.set k v)) :: W0) H1 → va_D A ((h0, .inr (ci, fs.set k v)) :: W0) → va_S A s.heap H1 locs1 → W p l e R s m args below meth c H1 locs1 cells slots Q (F0 m (pc + 3) ls rest)) : W p l e R s m args below meth c H locs cells slots Q (F0 m pc ls (v :: .ref h0 :: rest)) := by
  obtain ⟨T, N, ty0, h1, h2, h3, h4, h5, h6, h7, h8, h9⟩ := fp
  exact va_putF hx hb hts h3 ty0 h6 h7 hown hK hP hD hS 0 rfl h1 k h2 (hts _ h5) (fun x hx => by rw [h4] at hx; exact hx) h8 hin h4 h9 hn hfit hl hdg kk
theorem x_put {index ci k h0 : Nat} {ty : FieldType} {fs : List Value} {v : Value} {W0 : va_W} (hx : p.tables.exec = Jvm.exec) (hb : c.code = cc) (hts : ∀ w ∈ wt, w.before args s = true) (hown : s.vm.findClass own = some m.cls) (hK : f_K Ar D s) (hP : va_P D vwCl ((h0, .inr (ci, fs)) :: W0) H) (hD : va_D A ((h0, .inr (ci, fs)) :: W0)) (hS : va_S A s.heap H locs) (fp : x_fp own index ci k false ty) (hn : narrow ty v = v) (hfit : fits ty v = true) (hl : k < fs.length) (hdg : decode cc pc = .ok (.putfield index, 3))
    (kk : ∀ (H1 : Heap) (locs1 : List Loc), va_P D vwCl ((h0, .inr (ci, fs.set k v)) :: W0) H1 → va_D A ((h0, .inr (ci, fs.set k v)) :: W0) → va_S A s.heap H1 locs1 → W p l e R s m args below meth c H1 locs1 cells slots Q (F0 m (pc + 3) ls rest)) : W p l e R s m args below meth c H locs cells slots Q (F0 m pc ls (v :: .ref h0 :: rest)) := by
  obtain ⟨T, N, ty0, h1, h2, h3, h4, h5, h6, h7, h8, h9⟩ := fp
  exact va_put hx hb hts h3 ty0 h6 h7 hown hK hP hD hS 0 rfl h1 k h2 (hts _ h5) (fun x hx => by rw [h4] at hx; exact hx) h8 h9 hn hfit hl hdg kk
theorem x_get {index ci k h0 : Nat} {fin : Bool} {ty : FieldType} {fs : List Value} {v : Value} {W0 : va_W} (hx : p.tables.exec = Jvm.exec) (hb : c.code = cc) (hts : ∀ w ∈ wt, w.before args s = true) (hown : s.vm.findClass own = some m.cls) (hK : f_K Ar D s) (hP : va_P D vwCl ((h0, .inr (ci, fs)) :: W0) H) (fp : x_fp own index ci k fin ty) (hv : fs[k]? = some v) (hdg : decode cc pc = .ok (.getfield index, 3))
    (kk : W p l e R s m args below meth c H locs cells slots Q (F0 m (pc + 3) ls (v :: rest))) : W p l e R s m args below meth c H locs cells slots Q (F0 m pc ls (.ref h0 :: rest)) := by
  obtain ⟨T, N, ty0, h1, h2, h3, h4, h5, h6, h7, h8, h9⟩ := fp
  exact va_get hx hb hts h3 hown hK hP 0 rfl h1 k h2 (hts _ h5) (fun x hx => by rw [h4] at hx; exact hx) hv hdg kk
theorem x_new {index ci N : Nat} {fs : List Value} (hx : p.tables.exec = Jvm.exec) (hb : c.code = cc) (hts : ∀ w ∈ wt, w.before args s = true) (hown : s.vm.findClass own = some m.cls) (hK : f_K Ar D s) (hP : va_P D vwCl ws H) (hD : va_D A ws) (hS : va_S A s.heap H locs) (hA : ∀ q, s.heap.size ≤ q → A q) (nw : x_nw own index ci N fs) (hcells : cells + 1 ≤ R.cells) (hslots : slots + N ≤ R.slots) (hdg : decode cc pc = .ok (.new index, 3))
    (kk : ∀ (q : Nat) (H1 : Heap), va_P D vwCl (ws ++ [(q, .inr (ci, fs))]) H1 → va_D A (ws ++ [(q, .inr (ci, fs))]) → va_S A s.heap H1 locs → W p l e R s m args below meth c H1 locs (cells + 1) (slots + N) Q (F0 m (pc + 3) ls (.ref q :: rest))) : W p l e R s m args below meth c H locs cells slots Q (F0 m pc ls rest) := by
  obtain ⟨C, T, ty0, h1, h2, h3, h4, h5, h6, h7⟩ := nw
  exact va_new hx hb hts h2 ty0 h3 hown (hts _ h4) (hts _ h5) (hts _ h6) hK hP hD hS hA h1 h7 hcells hslots hdg kk
/-- behind the call of a constructor -/
theorem x_go {S : Type} {w : Nat → S → va_W} {q mc ms : Nat} {e0 : va_E} {st0 : List Value} {a : Array Value} (hr : va_Run p l e R s m args below meth c H locs cells slots mc ms (F0 m pc ls st0) rest (x_Qc D q H.size w a) (x_A q H.size)) (hP : va_P D vwCl (ws ++ [(q, e0)]) H) (hD : va_D A (ws ++ [(q, e0)])) (hS : va_S A s.heap H locs) (hA : ∀ q, s.heap.size ≤ q → A q)
    (kk : ∀ (u : S) (H1 : Heap) (locs1 : List Loc), va_P D vwCl (ws ++ w q u) H1 → va_D A (ws ++ w q u) → va_S A s.heap H1 locs1 → W p l e R s m args below meth c H1 locs1 (cells + mc) (slots + ms) Q (F0 m (pc + 3) ls rest)) : W p l e R s m args below meth c H locs cells slots Q (F0 m pc ls st0) := by
  have hlast : (ws ++ [(q, e0)])[ws.length]? = some (q, e0) := by simp
  have hq : A q := hD.2 _ _ hlast
  have hA1 : ∀ x, x_A q H.size x → A x := by
    rintro x (h | h)
    · rw [h]; exact hq
    · exact hA x (Nat.le_trans hS.1 h)
  have hleft : ∀ (i : Nat) (x : Nat × va_E), ws[i]? = some x → (ws ++ [(q, e0)])[i]? = some x := fun i x h => by
    rw [List.getElem?_append_left (List.getElem?_eq_some_iff.mp h).1]; exact h
  have hne : ∀ x ∈ ws, x.1 ≠ q := by
    intro x hx hxe
    obtain ⟨i, hi⟩ := List.getElem?_of_mem hx
    have := hD.1 i ws.length x (q, e0) (hleft i x hi) hlast hxe
    have := (List.getElem?_eq_some_iff.mp hi).1
    omega
  have hPw : va_P D vwCl ws H := j_sub hP (fun x hx => List.mem_append_left _ hx)
  have hDw : va_D A ws := ⟨fun i j x y hi hj => hD.1 i j x y (hleft i x hi) (hleft j y hj), fun k x hk => hD.2 k x (hleft k x hk)⟩
  refine va_callv hr hS (fun x _ h => hA1 x h) hA1 (fun u t H1 locs1 ht hvm _ hB hz hk hS1 => kk u H1 locs1 ?_ ?_ hS1)
  · exact j_join hPw hne (fun x h1 h2 => hk x h1 (fun h => by rcases h with h | h; exact h2 h; omega)) (by rw [← ht]; exact hB.1)
  · exact j_apart hPw hne hDw hB.2 hA1
theorem x_runI {S : Type} {w : Nat → S → va_W} {y : MethodName} {bytes : ByteArray} {maxL d mc ms nL index q : Nat} {as : List Value} {e0 : va_E} (hx : p.tables.exec = Jvm.exec) (hb : c.code = cc) (hml : c.maxLocals = nL) (hown : s.vm.findClass own = some m.cls) (hts : ∀ w ∈ wt, w.before args s = true) (hK : x_K Ar D s) (hM : x_C l y bytes maxL d mc ms D Ar as e0 w) (hcw : Cond.code y bytes maxL none ∈ wt) (hini : Cond.initialized y.cls ∈ wt) (hl : Cond.methodLink own index y ∈ wt) (him : Cond.instanceMethod y ∈ wt) (hy1 : y.name = "<init>") (hd : y.cls ≠ "java/lang/invoke/MethodHandle" ∧ y.cls ≠ "java/lang/invoke/VarHandle" ∧ (parseMethodDescriptor y.desc).map (fun d => d.parameters.length) = some as.length) (hR : d + 1 ≤ R.frames ∧ 8 + (maxL + 11) + 40 * d ≤ R.locals)
    (hP : va_P D vwCl (ws ++ [(q, e0)]) H) (hsz : ls.size = nL) (hst : (rest.map fun v => v.category).sum ≤ 8) (hdg : decode cc pc = .ok (.invokespecial index, 3)) (hf : cells + mc ≤ R.cells ∧ slots + ms ≤ R.slots) :
    va_Run p l e R s m args below meth c H locs cells slots mc ms (F0 m pc ls (as.reverse ++ .ref q :: rest)) rest (x_Qc D q H.size w (Value.ref q :: as).toArray) (x_A q H.size) :=
  va_runI (As := as) (rest := rest) ⟨hx, hb, hml, hown, hts⟩ (hM q H.size) (cwI as.length hts (x_good hcw) rfl rfl rfl (hts _ hini) (hts _ hl) (hts _ him) hy1 hd hR) ⟨fun a U g mk v => ⟨v.1, v.2.1, v.2.2.1, x_K.moved (u := U) (U := U.calling g mk a) (State.WarmedH.refl U) v.2.2.2⟩, fun U hU hW => ⟨rfl, by rw [hU], by rw [hU]; exact j_sub hP (fun x hx => List.mem_append_right _ hx), x_K.moved hW hK⟩⟩ rfl rfl hsz rfl (lv_room hst) hdg hf
theorem x_runIN {S : Type} {w : Nat → S → va_W} {y : MethodName} {bytes : ByteArray} {maxL d mc ms nL index q : Nat} {as : List Value} {e0 : va_E} {host : String} (hx : p.tables.exec = Jvm.exec) (hb : c.code = cc) (hml : c.maxLocals = nL) (hown : s.vm.findClass own = some m.cls) (hts : ∀ w ∈ wt, w.before args s = true) (hK : x_K Ar D s) (hM : x_C l y bytes maxL d mc ms D Ar as e0 w) (hcw : Cond.code y bytes maxL none ∈ wt) (hini : Cond.initialized y.cls ∈ wt) (hl : Cond.methodLinkNest own index y host ∈ tables_1) (him : Cond.instanceMethod y ∈ wt) (hy1 : y.name = "<init>") (hd : y.cls ≠ "java/lang/invoke/MethodHandle" ∧ y.cls ≠ "java/lang/invoke/VarHandle" ∧ (parseMethodDescriptor y.desc).map (fun d => d.parameters.length) = some as.length) (hR : d + 1 ≤ R.frames ∧ 8 + (maxL + 11) + 40 * d ≤ R.locals)
    (hP : va_P D vwCl (ws ++ [(q, e0)]) H) (hsz : ls.size = nL) (hst : (rest.map fun v => v.category).sum ≤ 8) (hdg : decode cc pc = .ok (.invokespecial index, 3)) (hf : cells + mc ≤ R.cells ∧ slots + ms ≤ R.slots) :
    va_Run p l e R s m args below meth c H locs cells slots mc ms (F0 m pc ls (as.reverse ++ .ref q :: rest)) rest (x_Qc D q H.size w (Value.ref q :: as).toArray) (x_A q H.size) :=
  va_runIN (As := as) (rest := rest) ⟨hx, hb, hml, hown, hts⟩ (hM q H.size) ⟨va_cnB as.length hts (x_good hcw) rfl rfl rfl (hK.2.1.1 _ hl rfl) (hts _ hini) hd hR, hy1, hts _ him⟩ ⟨fun a U g mk v => ⟨v.1, v.2.1, v.2.2.1, x_K.moved (u := U) (U := U.calling g mk a) (State.WarmedH.refl U) v.2.2.2⟩, fun U hU hW => ⟨rfl, by rw [hU], by rw [hU]; exact j_sub hP (fun x hx => List.mem_append_right _ hx), x_K.moved hW hK⟩⟩ rfl rfl hsz rfl (lv_room hst) hdg hf
/-- the end of a constructor -/
theorem x_ret {S : Type} {w : Nat → S → va_W} {h0 mc ms : Nat} (u : S) (hx : p.tables.exec = Jvm.exec) (hb : c.code = cc) (hr : meth.sig.returnType = none) (hlk : meth.locks = false) (hP : va_P D vwCl (w h0 u) H) (hD : va_D (x_A h0 s.heap.size) (w h0 u)) (hS : va_S (x_A h0 s.heap.size) s.heap H locs) (hc : cells ≤ mc) (hs : slots ≤ ms) (hd : decode cc pc = .ok (.return_, 1)) :
    W p l e R s m args below meth c H locs cells slots (MQ below (x_Qc D h0 s.heap.size w) args s mc ms (x_A h0 s.heap.size)) (F0 m pc ls []) :=
  W.widen hc hs (W.vret hx hb hr (fun t ht _ => ⟨⟨u, rfl, trivial, by rw [ht]; exact hP, hD⟩, hS.F ht⟩) hS.2.2 hd hlk)
end XR
/-! what a cell holds beyond its length does not matter -/
theorem x_celli {cA : ClassId} {n : Nat} {f g : Nat → Int32} (h : ∀ j, j < n → f j = g j) : vp_cell cA (n, .inl f) = vp_cell cA (n, .inl g) := by
  rw [vp_cell_i, vp_cell_i]
  unfold arrV
  congr 2
  funext j
  show Value.int (f j.val) = Value.int (g j.val)
  rw [h j.val j.isLt]
theorem x_cellq {cA : ClassId} {n : Nat} {f g : Nat → Option Nat} (h : ∀ j, j < n → f j = g j) : vp_cell cA (n, .inr (.inr (.inr (.inr f)))) = vp_cell cA (n, .inr (.inr (.inr (.inr g)))) := by
  rw [vp_cell_q, vp_cell_q]
  unfold arrV
  congr 2
  funext j
  show va_rf (f j.val) = va_rf (g j.val)
  rw [h j.val j.isLt]
theorem x_chg {D : va_G} {A : Nat → Prop} {ws : va_W} {H : Heap} {k a : Nat} {cA : ClassId} {x y : vp_A} (hP : va_P D vwCl ws H) (hD : va_D A ws) (hk : ws[k]? = some (a, .inl (cA, x))) (he : vp_cell cA x = vp_cell cA y) : va_P D vwCl (ws.set k (a, .inl (cA, y))) H ∧ va_D A (ws.set k (a, .inl (cA, y))) := by
  have h0 : H[a]? = some (vp_cell cA x) := hP k _ hk
  exact ⟨hP.set hD hk (by show H[a]? = some (vp_cell cA y); rw [← he]; exact h0) (fun _ _ => rfl), hD.set hk⟩
theorem x_hai (N : Nat) : ∀ cA : ClassId, vp_cell cA (N, .inl (fun _ => 0)) = arrV cA N (fun _ => defaultValue .int) := fun cA => vp_cell_i cA N (fun _ => 0)
theorem x_haz (N : Nat) : ∀ cA : ClassId, vp_cell cA (N, .inl (fun _ => 0)) = arrV cA N (fun _ => defaultValue .boolean) := fun cA => vp_cell_i cA N (fun _ => 0)
theorem x_hal (N : Nat) : ∀ cA : ClassId, vp_cell cA (N, .inr (.inl (fun _ => 0))) = arrV cA N (fun _ => defaultValue .long) := fun cA => vp_cell_l cA N (fun _ => 0)
section XR2
variable {p : Program} {l : Launch} {e : Env} {R : Room} {s : State} {m : MethodId} {args : Array Value} {below : List Frame} {meth : Method} {c : Code} {H : Heap} {locs : List Loc} {cells slots : Nat} {Q : State → Prop}
variable {cc : ByteArray} {pc : Nat} {ls : Array Slot} {rest : List Value} {D : va_G} {Ar : Nat → ClassId} {A : Nat → Prop} {ws : va_W} {own : String}
theorem x_newq {index : Nat} (hx : p.tables.exec = Jvm.exec) (hb : c.code = cc) (hts : ∀ w ∈ wt, w.before args s = true) (hown : s.vm.findClass own = some m.cls) (hK : x_K Ar D s) (hP : va_P D vwCl ws H) (hD : va_D A ws) (hS : va_S A s.heap H locs) (hA : ∀ q, s.heap.size ≤ q → A q) (hl : Cond.classLink own index "BottleReturn$Container" ∈ wt) (hcells : cells + 1 ≤ R.cells) (hslots : slots + 16 ≤ R.slots) (hdg : decode cc pc = .ok (.anewarray index, 3))
    (kk : ∀ (q : Nat) (H1 : Heap), va_P D vwCl (ws ++ [(q, .inl (Ar 3, 16, .inr (.inr (.inr (.inr (fun _ => none))))))]) H1 → va_D A (ws ++ [(q, .inl (Ar 3, 16, .inr (.inr (.inr (.inr (fun _ => none))))))]) → va_S A s.heap H1 locs → W p l e R s m args below meth c H1 locs (cells + 1) (slots + 16) Q (F0 m (pc + 3) ls (.ref q :: rest))) : W p l e R s m args below meth c H locs cells slots Q (F0 m pc ls (.int 16 :: rest)) := by
  refine va_newq hx hb hown (hts _ hl) hK.2.2.1 hK.1 hP hD hS hA (n := 16) (N' := 16) (by decide) (by decide) (by decide) hcells hslots hdg (fun q cA H1 hK1 hP1 hD1 hS1 => ?_)
  obtain ⟨_, _, _, _, _, g1⟩ := (hK1.2 5 (cA, .object "BottleReturn$Container") rfl).2
  obtain ⟨_, _, _, _, _, g2⟩ := (hK.1.2 3 (Ar 3, .object "BottleReturn$Container") rfl).2
  have hc : cA = Ar 3 := Option.some.inj (g1.symm.trans g2)
  subst hc
  exact kk q H1 hP1 hD1 hS1
def x_mw (Ar : Nat → ClassId) (q : Nat) : va_W := (q, .inl (Ar 4, 8, .inr (.inr (.inr (.inr (fun j => some (q + 1 + j))))))) :: (List.range 8).map (fun j => (q + 1 + j, .inl (Ar 0, 8, .inl (fun _ => 0))))
theorem x_mw_at {q k : Nat} {x : Nat × va_E} (h : (x_mw Ar q)[k]? = some x) : (k = 0 ∧ x = (q, .inl (Ar 4, 8, .inr (.inr (.inr (.inr (fun j => some (q + 1 + j)))))))) ∨ ∃ j, j < 8 ∧ k = j + 1 ∧ x = (q + 1 + j, .inl (Ar 0, 8, .inl (fun _ => 0))) := by
  cases k with
  | zero => exact Or.inl ⟨rfl, (Option.some.inj h).symm⟩
  | succ j =>
    have h1 : ((List.range 8).map (fun j => ((q + 1 + j, .inl (Ar 0, 8, .inl (fun _ => 0))) : Nat × va_E)))[j]? = some x := h
    have hj : j < 8 := by
      have := (List.getElem?_eq_some_iff.mp h1).1
      simpa using this
    rw [List.getElem?_map, List.getElem?_range hj] at h1
    exact Or.inr ⟨j, hj, rfl, (Option.some.inj h1).symm⟩
theorem x_multi {index : Nat} (hx : p.tables.exec = Jvm.exec) (hb : c.code = cc) (hts : ∀ w ∈ wt, w.before args s = true) (hown : s.vm.findClass own = some m.cls) (hK : x_K Ar D s) (hP : va_P D vwCl ws H) (hD : va_D A ws) (hS : va_S A s.heap H locs) (hA : ∀ q, s.heap.size ≤ q → A q) (hl : Cond.classLink own index "[[I" ∈ wt) (hcells : cells + 9 ≤ R.cells) (hslots : slots + 72 ≤ R.slots) (hdg : decode cc pc = .ok (.multianewarray index 2, 4))
    (kk : ∀ (q : Nat) (H1 : Heap) (locs1 : List Loc), va_P D vwCl (ws ++ x_mw Ar q) H1 → va_D A (ws ++ x_mw Ar q) → va_S A s.heap H1 locs1 → W p l e R s m args below meth c H1 locs1 (cells + 9) (slots + 72) Q (F0 m (pc + 4) ls (.ref q :: rest))) : W p l e R s m args below meth c H locs cells slots Q (F0 m pc ls (.int 8 :: .int 8 :: rest)) := by
  intro T hT X
  subst hT
  obtain ⟨kA, hkA, hkindA⟩ := hK.2.2.2
  have hfA : s.vm.findClass "[[I" = some (Ar 4) := (hK.1.2 4 (Ar 4, .array .int) rfl).2
  obtain ⟨-, kC, hkC, cc0, hkindC⟩ := (hK.1.2 0 (Ar 0, .int) rfl).1 8 (fun _ => .int 0)
  obtain ⟨T', L, X', hL, ⟨z1, z2, z3, z4⟩, st⟩ := x_ms X hx hown (hts _ hl) hfA hkA hkindA hkC hkindC (g := F0 m pc ls (.int 8 :: .int 8 :: rest)) rfl (by rw [hb]; exact hdg) rfl hcells hslots
  have hle : s.heap.size ≤ T.heap.size := hS.1
  have hadr : ∀ (k : Nat) (x : Nat × va_E), (x_mw Ar T.heap.size)[k]? = some x → x.1 = T.heap.size + k := by
    intro k x hk
    rcases x_mw_at hk with ⟨h1, h2⟩ | ⟨j, -, h1, h2⟩
    · rw [h2, h1]
      rfl
    · rw [h2, h1]
      show T.heap.size + 1 + j = _
      omega
  have hP2 : va_P D vwCl (ws ++ x_mw Ar T.heap.size) T'.heap := by
    refine (hP.kept (fun k x hx => z4 x.1 ((hP k x hx).lt))).app (fun k x hk => ?_)
    rcases x_mw_at hk with ⟨-, h2⟩ | ⟨j, hj, -, h2⟩
    · rw [h2]
      show T'.heap[T.heap.size]? = some (vp_cell _ _)
      rw [z2, vp_cell_q]
      unfold x_mo arrV
      congr 3
      funext j
      exact if_pos j.isLt
    · rw [h2]
      show T'.heap[T.heap.size + 1 + j]? = some (vp_cell _ _)
      rw [z3 j hj, vp_cell_i]
      exact congrArg some (arrV_new (Ar 0) 8 (.int 0))
  have hD2 : va_D A (ws ++ x_mw Ar T.heap.size) := by
    refine va_D.app hD ⟨fun i j x y hi hj hxy => ?_, fun k x hk => ?_⟩ (fun i j x y hi hj hxy => ?_)
    · have e1 := hadr i x hi
      have e2 := hadr j y hj
      omega
    · exact hA _ (by rw [hadr k x hk]; omega)
    · have e1 := (hP i x hi).lt
      have e2 := hadr j y hj
      omega
  have hS2 : va_S A s.heap T'.heap (locs ++ L) := by
    refine ⟨by rw [z1]; omega, fun q h1 h2 => ?_, fun q hq => ?_⟩
    · rw [z4 q (Nat.lt_of_lt_of_le h1 hle)]
      exact hS.2.1 q h1 h2
    · rcases List.mem_append.mp hq with h | h
      · exact hS.2.2 q h
      · rw [hL q h]
        exact hA _ hle
  obtain ⟨t, a1, b1⟩ := kk _ _ _ hP2 hD2 hS2 T' rfl X'
  exact ⟨t, st t a1, b1⟩
end XR2
