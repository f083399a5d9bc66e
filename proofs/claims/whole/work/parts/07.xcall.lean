/-! Calls whose callee throws: what comes to the caller; it leaves the caller too, or is caught. -/
section FX
variable {p : Program} {l : Launch} {e : Env} {R : Room} {s : State} {m : MethodId} {args : Array Value} {below : List Frame} {meth : Method} {c : Code} {T : State} {H : Heap} {locs : List Loc} {cells slots : Nat} {Q : State → Prop}
variable {L : Nat → Nat → Nat} {Ar : Nat → ClassId} {D : va_G} {b0 u : Nat} {z z' : fST} {y : MethodName} {ws : List Cond} {d n : Nat} {as : List Value}
theorem f_Pc_blind (L : Nat → Nat → Nat) (Ar : Nat → ClassId) (D : va_G) (b0 : Nat) (as : List Value) (z : fST) : FrameBlind (f_Pc L Ar D b0 as z) :=
  fun a U g mk q => ⟨q.1, q.2.1, va_K.moved (u := U) (U := U.calling g mk a) (Vm.Alike.refl U.vm) q.2.2.1, f_Z.moved (u := U) (U := U.calling g mk a) (State.WarmedH.refl U) q.2.2.2.1, q.2.2.2.2⟩
theorem f_Pc_at (hK : f_K Ar D s) (hZ : f_Z b0 s s.heap) (hsz : b0 ≤ s.heap.size) (hS : va_S (f_A b0) s.heap H locs) (hW : f_W L Ar D z H) {U : State} (hU : U.heap = H) (hWm : s.WarmedH U.vm) : f_Pc L Ar D b0 as z as.toArray U := by
  refine ⟨rfl, by rw [hU]; exact Nat.le_trans hsz hS.1, va_K.moved hWm.alike hK, ?_, by rw [hU]; exact hW⟩
  refine (hZ.moved hWm).kept ?_
  intro q hq
  rw [hU]
  exact hS.2.1 q (Nat.lt_of_lt_of_le hq hsz) (fun h => Nat.not_le.mpr hq h)
theorem hw_preS (hK : f_K Ar D s) (hZ : f_Z b0 s s.heap) (hsz : b0 ≤ s.heap.size) (hS : va_S (f_A b0) s.heap H locs) (hW : f_W L Ar D z H) : PreS s H (f_Pc L Ar D b0 as z) as :=
  ⟨f_Pc_blind L Ar D b0 as z, fun U hU hWm => f_Pc_at hK hZ hsz hS hW hU hWm⟩
theorem f_recv {k i ci N : Nat} {C : String} {T : u_T} (hK : f_K Ar D s) (hW : f_W L Ar D z H) (hk : k < 51) (hi : i < f_cnt k) (h1 : f_ob k = some ci) (h2 : vwCl[ci]? = some (C, T, N)) : ∃ cellB : Cell, H[L k i]? = some cellB ∧ cellB.vm.isStatics = false ∧ s.vm.findClass C = some cellB.cls := by
  obtain ⟨q0, -, hq⟩ := f_pos (L := L) (Ar := Ar) (f_en_mem hk hi)
  have he := hq z
  simp only [f_cell, h1] at he
  obtain ⟨r, g0, cell, g1, g2, g3, -⟩ := hW q0 _ he
  refine ⟨cell, g1, by rw [g3]; rfl, ?_⟩
  rw [g2]
  exact (hK.1 ci _ h2).2.1
theorem hw_preV {k i ci N : Nat} {C : String} {T : u_T} (hK : f_K Ar D s) (hZ : f_Z b0 s s.heap) (hsz : b0 ≤ s.heap.size) (hS : va_S (f_A b0) s.heap H locs) (hW : f_W L Ar D z H) (hk : k < 51) (hi : i < f_cnt k) (h1 : f_ob k = some ci) (h2 : vwCl[ci]? = some (C, T, N)) : PreV s H C (L k i) (f_Pc L Ar D b0 (.ref (L k i) :: as) z) as :=
  ⟨f_Pc_blind L Ar D b0 _ z, f_recv hK hW hk hi h1 h2, fun U hU hWm => f_Pc_at hK hZ hsz hS hW hU hWm⟩
theorem f_callT (X : Stand p l e R s m args below meth c T locs cells slots) (hC : f_C l y ws d u L Ar D b0 as z (.inr n) z') {g : JFrame} (hg : g.method = m) (hsize : g.locals.size = c.maxLocals) {ig : Instr} {len : Nat} (hdg : decode c.code g.pc = .ok (ig, len)) (hWt : 2 * g.monitorRoom + (g.stack.map fun v => v.category).sum ≤ 8) {mk : MethodId} (hn : T.methodNamed? y = some mk)
    {bytes : ByteArray} {maxL : Nat} {ret : Option FieldType} (hcode : (Cond.code y bytes maxL ret).before as.toArray T = true) (hini : (Cond.initialized y.cls).before as.toArray T = true) (hws : ∀ w ∈ ws, w.before as.toArray T = true) (hfr : d + 1 ≤ R.frames) (hlo : 8 + (maxL + 11) + 40 * d ≤ R.locals) (hc : cells + u ≤ R.cells) (hs : slots + 6 * u ≤ R.slots) (hP : f_Pc L Ar D b0 as z as.toArray T) :
    ∃ (q : Addr) (T' : State) (Lc : List Loc) (ce : Cell), Stand p l e R s m args below meth c T' (locs ++ Lc) (cells + u) (slots + 6 * u) ∧ (∀ x ∈ Lc, b0 ≤ x.base) ∧ f_W L Ar D z' T'.heap ∧ T.heap.size ≤ T'.heap.size ∧ (∀ q' : Nat, q' < T.heap.size → ¬ f_A b0 q' → T'.heap[q']? = T.heap[q']?) ∧
      T'.heap[q]? = some ce ∧ ce.vm = .none ∧ T.vm.findClass (f_exc n) = some ce.cls ∧ Steps p.tables e below (doInvoke e (T.setTop g) [] mk as.toArray).1 ((T'.setTop g).pushFrame (.throwing q)) := by
  obtain ⟨methY, cY, hmY, hcY, -, hlY, -, -, -, -⟩ := Cond.code_spec hn hcode
  obtain ⟨kY, hkY, -⟩ := className_of_methodNamed hn
  have hinitY : kY.init = .initialized := Cond.initialized_spec (findClass_of_methodNamed hn) hkY hini
  have h : At T g.method c below := by rw [hg]; exact X.here
  have happ : (headSpec ws (f_rm d u)).appliesLoose y e.platform (T.calling g mk as.toArray) = true :=
    Spec.appliesLoose_calling (g := g) h hdg hn hkY hinitY
      (X.room_calling (g := g) (R' := f_rm d u) hsize hmY hcY hfr (by rw [hlY]; show _ + (maxL + 11) + 40 * d ≤ _; omega) hc hs) (atoms_intro hws)
  obtain ⟨mid, hmid⟩ := h.above
  have hfr' : (T.setTop g).frames = (.java g :: mid) ++ below := by rw [State.frames_setTop' g h.top, hmid]; rfl
  obtain ⟨o, s₂, hsteps, -, hend, hq⟩ := Steps.callFree hC p X.admits X.cas X.clock (acts := []) hfr' happ (f_Pc_blind L Ar D b0 as z _ _ g mk hP) trivial
  rw [State.frames_setTop' g h.top, X.tail] at hend
  obtain ⟨ho, hW2, hF, Lc, w1, w2, w3⟩ := hq
  obtain ⟨q, ce, rfl, c1, c2, c3⟩ := ho
  obtain ⟨T', X', hW', hsame', ht⟩ := X.outOfThrown hg hend w1 w2
  have hheap : s₂.heap = T'.heap := by rw [ht]; exact Stand.throwing_heap T' g q
  rw [hheap] at hW2 c1
  have hF1 : T.heap.size ≤ T'.heap.size := by rw [← hheap]; exact hF.1
  have hF2 : ∀ q' : Nat, q' < T.heap.size → ¬ f_A b0 q' → T'.heap[q']? = T.heap[q']? := by
    intro q' h1 h2
    rw [← hheap]
    exact hF.2 q' h1 h2
  exact ⟨q, T', Lc, ce, X', w3, hW2, hF1, hF2, c1, c2, c3, by rw [← ht]; exact hsteps⟩
/-- the method's frame g, with q thrown over it -/
def f_V (p : Program) (l : Launch) (e : Env) (R : Room) (s : State) (m : MethodId) (args : Array Value) (below : List Frame) (meth : Method) (c : Code) (H : Heap) (locs : List Loc) (cells slots : Nat) (Q : State → Prop) (g : JFrame) (q : Addr) : Prop :=
  ∀ T : State, T.heap = H → Stand p l e R s m args below meth c T locs cells slots → ∃ t, Steps p.tables e below ((T.setTop g).pushFrame (.throwing q)) t ∧ Q t
theorem hw_out {pc : Nat} {ls : Array Slot} {rest : List Value} {ce : Cell} {q : Addr} (hout : ∀ x ∈ c.exceptionTable.toList, covers x pc = false) (hlk : meth.locks = false) (hW : f_W L Ar D z' H) (hS : va_S (f_A b0) s.heap H locs) (hq : H[q]? = some ce) (hv : ce.vm = .none) (hcl : s.vm.findClass (f_exc n) = some ce.cls) (hc : cells ≤ u) (hs : slots ≤ 6 * u) :
    f_V p l e R s m args below meth c H locs cells slots (f_E below args s L Ar D b0 u (.inr n) z') (F0 m pc ls rest) q := by
  intro T hT X0
  have X := stand_widen X0 hc hs
  obtain ⟨st, r1, r2, r3, r4⟩ := X.leaveThrown q (g := F0 m pc ls rest) rfl rfl rfl hout hlk
  exact ⟨_, st, _, r1, r2, ⟨q, ce, rfl, by rw [show (T.setFrames (.throwing q :: below)).heap = T.heap from rfl, hT]; exact hq, hv, hcl⟩, by rw [show (T.setFrames (.throwing q :: below)).heap = T.heap from rfl, hT]; exact hW, hS.F hT, locs, r3, r4, hS.2.2⟩
theorem hw_ST {cc : ByteArray} {pc nL index maxL k uc : Nat} {own : String} {As rest : List Value} {ls : Array Slot} {bytes : ByteArray} {ret : Option FieldType} {Ts : List Cond} (S : CallFix p m c cc nL s args Ts own) (hC : f_C l y ws d uc L Ar D b0 As z (.inr n) z') (cw : CallB R s args own index y bytes maxL ret ws (f_rm d uc) uc (6 * uc) k ∧ (Cond.static y).before args s = true)
    (hK : f_K Ar D s) (hZ : f_Z b0 s s.heap) (hsz : b0 ≤ s.heap.size) (hS : va_S (f_A b0) s.heap H locs) (hW : f_W L Ar D z H) (hn : As.length = k) (hsize : ls.size = nL) (hwt : (rest.map fun v => v.category).sum ≤ 8) (hdg : decode cc pc = .ok (.invokestatic index, 3)) (hf : cells + uc ≤ R.cells ∧ slots + 6 * uc ≤ R.slots)
    (kk : ∀ (q : Addr) (ce : Cell) (H1 : Heap) (locs1 : List Loc), f_W L Ar D z' H1 → va_S (f_A b0) s.heap H1 locs1 → H1[q]? = some ce → ce.vm = .none → s.vm.findClass (f_exc n) = some ce.cls → f_V p l e R s m args below meth c H1 locs1 (cells + uc) (slots + 6 * uc) Q (F0 m pc ls rest) q) :
    W p l e R s m args below meth c H locs cells slots Q (F0 m pc ls (As.reverse ++ rest)) := by
  obtain ⟨⟨-, -, hfr, hlo, hws, hcw, hcode, hini, hy, hlen, hl⟩, hstt⟩ := cw
  obtain ⟨hx, hb, hml, ho, -⟩ := S
  intro T hT X
  obtain ⟨mk, hnamed⟩ := Cond.code_named hcode
  obtain ⟨methM, cM, hmethM, -, -, -, -, -, -, hsigM⟩ := Cond.code_spec hnamed hcode
  have hstatic : methM.isStatic = true := Cond.static_spec hnamed hmethM hstt
  obtain ⟨kP, hkP, -⟩ := className_of_methodNamed hnamed
  have hinitP : kP.init = .initialized := Cond.initialized_spec (findClass_of_methodNamed hnamed) hkP hini
  obtain ⟨vm₁, X₁, hstep₁⟩ := X.invokestatic hx ho hl hnamed hmethM hstatic hkP hinitP hy (g := F0 m pc ls (As.reverse ++ rest)) rfl (argsL := As) (rest := rest) (hn.trans (hlen _ hsigM)) rfl (by rw [hb]; exact hdg)
  obtain ⟨q, T', Lc, ce, X', hL, hW', k1, k2, k3, k4, k5, hsteps⟩ := f_callT X₁ hC (g := F0 m pc ls rest) rfl (hsize.trans hml.symm) (by rw [hb]; exact hdg) (by show 2 * 0 + (rest.map fun v => v.category).sum ≤ 8; omega) (X₁.named hnamed) (hws _ hcw _ _ X₁.warmed) (word_at X₁.warmed (Or.inl (by first | rfl | simp [Cond.onTables, Cond.keeps, Cond.steady])) hini) (fun w hw => hws w hw _ _ X₁.warmed) hfr hlo hf.1 hf.2 (f_Pc_at hK hZ hsz hS hW hT X₁.warmed)
  have hT1 : (T.setVm vm₁).heap = H := hT
  rw [hT1] at k1 k2
  obtain ⟨t, a1, b1⟩ := kk q ce T'.heap (locs ++ Lc) hW'
    ⟨Nat.le_trans hS.1 k1, fun q' h1 h2 => by rw [k2 q' (Nat.lt_of_lt_of_le h1 hS.1) h2]; exact hS.2.1 q' h1 h2, fun x hx => by
      rcases List.mem_append.mp hx with h | h
      · exact hS.2.2 x h
      · exact hL x h⟩ k3 k4 (by rw [← X₁.warmed.alike.findClass]; exact k5) T' rfl X'
  exact ⟨t, hstep₁ _ fun acts => by rw [doInvoke_state]; exact hsteps.trans a1, b1⟩
theorem hw_VT {cc : ByteArray} {pc nL index maxL k uc : Nat} {own C : String} {b : Addr} {As rest : List Value} {ls : Array Slot} {bytes : ByteArray} {ret : Option FieldType} {Ts : List Cond} (S : CallFix p m c cc nL s args Ts own) (hC : f_C l y ws d uc L Ar D b0 (.ref b :: As) z (.inr n) z') (cw : CallW R s args own C index y bytes maxL ret ws (f_rm d uc) uc (6 * uc) k)
    (hK : f_K Ar D s) (hZ : f_Z b0 s s.heap) (hsz : b0 ≤ s.heap.size) (hS : va_S (f_A b0) s.heap H locs) (hW : f_W L Ar D z H) (hrecv : ∃ cellB : Cell, H[b]? = some cellB ∧ cellB.vm.isStatics = false ∧ s.vm.findClass C = some cellB.cls) (hn : As.length = k) (hsize : ls.size = nL) (hwt : (rest.map fun v => v.category).sum ≤ 8) (hdg : decode cc pc = .ok (.invokevirtual index, 3)) (hf : cells + uc ≤ R.cells ∧ slots + 6 * uc ≤ R.slots)
    (kk : ∀ (q : Addr) (ce : Cell) (H1 : Heap) (locs1 : List Loc), f_W L Ar D z' H1 → va_S (f_A b0) s.heap H1 locs1 → H1[q]? = some ce → ce.vm = .none → s.vm.findClass (f_exc n) = some ce.cls → f_V p l e R s m args below meth c H1 locs1 (cells + uc) (slots + 6 * uc) Q (F0 m pc ls rest) q) :
    W p l e R s m args below meth c H locs cells slots Q (F0 m pc ls (As.reverse ++ .ref b :: rest)) := by
  obtain ⟨⟨-, -, hfr, hlo, hws, hcw, hcode, hini, hy, hlen, hl⟩, hinst, hsel⟩ := cw
  obtain ⟨hx, hb, hml, ho, -⟩ := S
  obtain ⟨cellB, hcB, hobj, hcls⟩ := hrecv
  intro T hT X
  obtain ⟨mk, methM, hnamed, hmethM, hstM, habM⟩ := Cond.instanceMethod_spec hinst
  obtain ⟨methM', cM, hmethM', -, -, -, -, -, -, hsigM⟩ := Cond.code_spec hnamed hcode
  cases hmethM.symm.trans hmethM'
  obtain ⟨c2, r2, m2, q1, q2, q3, q4, kP, hkP, hkPi⟩ := Cond.selects_spec hsel
  cases hcls.symm.trans q1
  cases (State.methodFound?_of_named hnamed hy).symm.trans q2
  cases hnamed.symm.trans q3
  have hselP : selectMethod e.platform s.vm cellB.cls mk = .method mk := by rw [Launch.admits_selectMethod X.admits]; exact q4
  obtain ⟨vm₁, X₁, hstep₁⟩ := X.invokevirtual hx ho hl hnamed hmethM hstM hkP hkPi hy (a := b) (cell := cellB) (by rw [hT]; exact hcB)
    (fun z h => by rw [h] at hobj; cases hobj) hselP hmethM habM hkP hkPi (g := F0 m pc ls (As.reverse ++ .ref b :: rest)) rfl (argsL := As) (rest := rest) (hn.trans (hlen _ hsigM)) rfl (by rw [hb]; exact hdg)
  obtain ⟨q, T', Lc, ce, X', hL, hW', k1, k2, k3, k4, k5, hsteps⟩ := f_callT X₁ hC (g := F0 m pc ls rest) rfl (hsize.trans hml.symm) (by rw [hb]; exact hdg) (by show 2 * 0 + (rest.map fun v => v.category).sum ≤ 8; omega) (X₁.named hnamed) (hws _ hcw _ _ X₁.warmed) (word_at X₁.warmed (Or.inl (by first | rfl | simp [Cond.onTables, Cond.keeps, Cond.steady])) hini) (fun w hw => hws w hw _ _ X₁.warmed) hfr hlo hf.1 hf.2 (f_Pc_at hK hZ hsz hS hW hT X₁.warmed)
  have hT1 : (T.setVm vm₁).heap = H := hT
  rw [hT1] at k1 k2
  obtain ⟨t, a1, b1⟩ := kk q ce T'.heap (locs ++ Lc) hW'
    ⟨Nat.le_trans hS.1 k1, fun q' h1 h2 => by rw [k2 q' (Nat.lt_of_lt_of_le h1 hS.1) h2]; exact hS.2.1 q' h1 h2, fun x hx => by
      rcases List.mem_append.mp hx with h | h
      · exact hS.2.2 x h
      · exact hL x h⟩ k3 k4 (by rw [← X₁.warmed.alike.findClass]; exact k5) T' rfl X'
  exact ⟨t, hstep₁ _ fun acts => by rw [doInvoke_state]; exact hsteps.trans a1, b1⟩
end FX
