/-! A throw: 'throw new E()' ends the method; the heap is as it was, and one cell more. -/
section FT
variable {p : Program} {l : Launch} {e : Env} {R : Room} {s : State} {m : MethodId} {args : Array Value} {below : List Frame} {meth : Method} {c : Code} {T : State} {H : Heap} {locs : List Loc} {cells slots : Nat}
/-- the walk as if the method had just begun, at the heap that stands now -/
theorem f_rebase (X : Stand p l e R s m args below meth c T locs cells slots) {R' : Room} (h1 : R'.frames ≤ R.frames) (h2 : R'.locals ≤ R.locals) (h3 : cells + R'.cells ≤ R.cells) (h4 : slots + R'.slots ≤ R.slots) :
    Stand p l e R' ((T.setVm s.vm).setFrames (.invoking m args :: below)) m args below meth c T [] 0 0 := by
  obtain ⟨g₀, hfr⟩ := X.frames_eq
  have hcur : T.cur < T.threads.size := State.cur_lt_of_frames hfr
  have hcur' : (T.setVm s.vm).cur < (T.setVm s.vm).threads.size := hcur
  have hf : ((T.setVm s.vm).setFrames (.invoking m args :: below)).frames = .invoking m args :: below := State.frames_setFrames _ hcur'
  have hme : e.platform.stackLimits ((T.setVm s.vm).setFrames (.invoking m args :: below)).me = e.platform.stackLimits T.me := by
    rw [State.stackLimits_setFrames]; rfl
  have hby : ((T.setVm s.vm).setFrames (.invoking m args :: below)).me.stackBytes = T.me.stackBytes := by
    rw [State.stackBytes_setFrames]; rfl
  have hli : ((T.setVm s.vm).setFrames (.invoking m args :: below)).localsInUse = s.localsInUse := by
    rw [State.localsInUse_invoking hf (show ((T.setVm s.vm).setFrames (.invoking m args :: below)).vm.method? m = some meth from X.method) X.code, State.localsInUse_invoking X.frames X.method X.code]
  refine ⟨X.admits, X.cas, X.clock, hf, ?_, ?_, X.method, X.code, X.here, X.tail, X.warmed, by rw [hme], by rw [hby], ?_⟩
  · have hr := X.room
    have hz := X.heapSize
    have hu := X.used
    have hb := X.book
    have hl := X.limits
    have hb2 := X.bytes
    simp only [State.hasRoom, Bool.and_eq_true, decide_eq_true_eq] at hr ⊢
    rw [hli, hf, hme, hby]
    rw [X.frames] at hr
    rw [hl, hb2]
    refine ⟨⟨⟨⟨?_, ?_⟩, ?_⟩, ?_⟩, ?_⟩
    · have := hr.1.1.1.1
      omega
    · obtain ⟨q1, q2, q3, q4, q5⟩ := hr.1.1.1.2
      exact ⟨by omega, by omega, by omega, by omega, q5⟩
    · have := hr.1.1.2
      show T.heap.size + R'.cells ≤ _
      omega
    · have := hr.1.2
      show T.slotsUsed + R'.slots ≤ _
      omega
    · exact hb
  · exact X.hears
  · refine ⟨?_, Nat.le_refl _, Nat.le_refl _, ?_, ?_, ?_⟩
    · obtain ⟨th, hth, -⟩ := State.frames_cons hfr
      rw [State.setFrames_setFrames]
      show T.setVm s.vm = { (T.setVm s.vm).setFrames T.frames with heap := T.heap, slotsUsed := T.slotsUsed }
      rw [show (T.setVm s.vm).setFrames T.frames = T.setVm s.vm from State.setFrames_self (s := T.setVm s.vm) hth]
      rfl
    · show T.slotsUsed = T.slotsUsed + ((T.heap.toList.drop T.heap.size).map (·.slots.size)).sum
      rw [List.drop_eq_nil_of_le (by rw [Array.length_toList]; exact Nat.le_refl _)]
      rfl
    · show ((T.heap.toList.drop T.heap.size).map (·.slots.size)).sum ≤ 0
      rw [List.drop_eq_nil_of_le (by rw [Array.length_toList]; exact Nat.le_refl _)]
      exact Nat.le_refl _
    · intro a cl hcl
      exact ⟨cl, hcl, rfl, rfl, fun _ _ => rfl⟩
theorem f_thr0 {cc : ByteArray} {pc ik ic : Nat} {own cls : String} {names : List String} {ls : Array Slot} {rest : List Value} (X : Stand p l e R s m args below meth c T [] 0 0) (hh : s.heap = T.heap) (hx : p.tables.exec = Jvm.exec) (hb : c.code = cc) (htr : e.platform.stackTraces = false) (hown : s.vm.findClass own = some m.cls) (hcls : Bundle.fit cls = true) (hnames : ∀ n ∈ names, Bundle.fit n = true)
    (hk : (Cond.classLink own ik cls).before args s = true) (hini : (Cond.initialized cls).before args s = true) (h : ∀ a ∈ Bundle.ownAtoms0 own ic cls names, a.before args s = true) (hsize : ls.size = c.maxLocals)
    (d0 : decode cc pc = .ok (.new ik, 3)) (d3 : decode cc (pc + 3) = .ok (.dup, 1)) (d4 : decode cc (pc + 4) = .ok (.invokespecial ic, 3)) (d7 : decode cc (pc + 7) = .ok (.athrow, 1))
    (hout : ∀ x ∈ c.exceptionTable.toList, covers x (pc + 7) = false) (hlk : meth.locks = false) (hRf : names.length + 3 < R.frames) (hRl : (rest.map fun v => v.category).sum + (13 * (names.length + 1) + 42) ≤ R.locals) (hRc : 1 ≤ R.cells) (hRs : 6 ≤ R.slots) :
    ∃ (U : State) (a : Addr) (ce : Cell), Steps p.tables e below (T.setTop (F0 m pc ls rest)) U ∧ U.status = .running ∧ Ended U below (.threw a) ∧ s.WarmedH U.vm ∧ s.sameButNew ({ U with vm := s.vm } : State) [] 1 6 ∧ U.heap[a]? = some ce ∧ ce.vm = .none ∧ s.vm.findClass cls = some ce.cls := by
  have hW : W p l e R s m args below meth c T.heap [] 0 0 (fun U => ∃ (a : Addr) (ce : Cell), U.status = .running ∧ Ended U below (.threw a) ∧ s.WarmedH U.vm ∧ s.sameButNew ({ U with vm := s.vm } : State) [] 1 6 ∧ U.heap[a]? = some ce ∧ ce.vm = .none ∧ s.vm.findClass cls = some ce.cls) (F0 m pc ls rest) := by
    refine W.newc hx hb hown hk (h (.instantiable cls 6) (by simp [Bundle.ownAtoms0])) hini rfl d0 (by omega) (by omega) (fun cC kC g1 g2 g3 g4 => ?_)
    refine lv_dup hx hb d3 rfl ?_
    intro T1 hT1 X1
    have hc1 : T1.heap[T.heap.size]? = some (freshCell cC kC) := by
      rw [hT1]
      simp [freshCell]
    obtain ⟨U, st, k1, k2, k3, k4, ce, k5, k6⟩ := X1.ctorThrow0 hx htr hown hcls hnames h (fun x hx => by cases hx) (a := T.heap.size) g1 g2 hc1 (by rw [hh]; exact Nat.le_refl _) (g := F0 m (pc + 3 + 1) ls (.ref T.heap.size :: .ref T.heap.size :: rest)) rfl hsize rfl rfl (rest := rest) rfl (by rw [hb]; exact d4) (by rw [hb]; exact d7) hout hRf (by show 2 * 0 + (1 + (rest.map fun v => v.category).sum) + _ ≤ _; omega) hlk
    exact ⟨U, st, T.heap.size, ce, k1, k2, k3, k4, k5, k6.vm, k6.cls⟩
  obtain ⟨U, st, a, ce, r⟩ := hW T rfl X
  exact ⟨U, a, ce, st, r⟩
end FT
section FT2
variable {p : Program} {l : Launch} {e : Env} {R : Room} {s : State} {m : MethodId} {args : Array Value} {below : List Frame} {meth : Method} {c : Code} {H : Heap} {locs : List Loc} {cells slots : Nat}
variable {L : Nat → Nat → Nat} {Ar : Nat → ClassId} {D : va_G} {b0 u : Nat} {z z' : fST} {Ts : List Cond} {own : String}
/-- the words of 'throw new E()' at this place -/
def f_tw (Ts : List Cond) (own : String) (ik ic n : Nat) : Prop := Cond.classLink own ik (f_exc n) ∈ Ts ∧ Cond.initialized (f_exc n) ∈ Ts ∧ (∀ w ∈ Bundle.ownAtoms0 own ic (f_exc n) ["java/lang/RuntimeException", "java/lang/Exception"], w ∈ f_zw ∨ (w ∈ Ts ∧ w.onTables = true) ∨ (w ∈ tables_1 ∧ f_kn w = true)) ∧ Bundle.fit (f_exc n) = true
theorem hw_throw {α : Type} {g : α ⊕ Nat → Option Value ⊕ Nat} {r : α ⊕ Nat} {n ik ic pc nL : Nat} {cc : ByteArray} {ls : Array Slot} {rest : List Value} (hl0 : l.stackTraces = false) (hx : p.tables.exec = Jvm.exec) (hb : c.code = cc) (hts : ∀ w ∈ Ts, w.before args s = true) (hown : s.vm.findClass own = some m.cls) (hlk : meth.locks = false) (hml : c.maxLocals = nL) (hno : ∀ x ∈ c.exceptionTable.toList, False) (hZ : f_Z b0 s s.heap) (hsz : b0 ≤ s.heap.size)
    (hg : g (.inr n) = .inr n) (hw : f_tw Ts own ik ic n) (hW : f_W L Ar D z H) (hS : va_S (f_A b0) s.heap H locs) (hsize : ls.size = nL) (d0 : decode cc pc = .ok (.new ik, 3)) (d3 : decode cc (pc + 3) = .ok (.dup, 1)) (d4 : decode cc (pc + 4) = .ok (.invokespecial ic, 3)) (d7 : decode cc (pc + 7) = .ok (.athrow, 1))
    (hRf : 5 < R.frames) (hRl : (rest.map fun v => v.category).sum + 81 ≤ R.locals) (hc : cells + 1 ≤ u) (hs : slots + 6 ≤ 6 * u) (hRc : cells + 1 ≤ R.cells) (hRs : slots + 6 ≤ R.slots) (hF : some ((.inr n : α ⊕ Nat), z) = some (r, z')) :
    W p l e R s m args below meth c H locs cells slots (f_E below args s L Ar D b0 u (g r) z') (F0 m pc ls rest) := by
  cases hF
  rw [hg]
  intro T hT X
  have htr : e.platform.stackTraces = false := (show e.platform.stackTraces = l.stackTraces by rw [X.admits.platform]).trans hl0
  have Y := f_rebase X (R' := { frames := R.frames, locals := R.locals, cells := 1, slots := 6 }) (Nat.le_refl _) (Nat.le_refl _) hRc hRs
  obtain ⟨s', hs'⟩ : ∃ q, q = (T.setVm s.vm).setFrames (.invoking m args :: below) := ⟨_, rfl⟩
  rw [← hs'] at Y
  have hvm : s'.vm = s.vm := by rw [hs']; rfl
  have hhp : s'.heap = T.heap := by rw [hs']; rfl
  have tab : ∀ w ∈ Ts, w.onTables = true → w.before args s' = true := fun w h1 h2 => va_tabs h2 hvm.symm (hts w h1)
  have hzw : ∀ w ∈ f_zw, w.before args s' = true := by
    refine hZ.1 args s' (by rw [hvm]; exact Vm.Alike.refl _) ?_
    intro q hq
    rw [hhp, hT]
    exact hS.2.1 q (Nat.lt_of_lt_of_le hq hsz) (fun h => Nat.not_le.mpr hq h)
  obtain ⟨U, a, ce, st, h1, h2, h3, h4, h5, h6, h7⟩ := f_thr0 (names := ["java/lang/RuntimeException", "java/lang/Exception"]) (rest := rest) Y hhp hx hb htr (by rw [hvm]; exact hown) hw.2.2.2 (by decide) (tab _ hw.1 rfl) (tab _ hw.2.1 rfl)
    (fun w h => by
      rcases hw.2.2.1 w h with h | ⟨h, h'⟩ | ⟨h, h'⟩
      · exact hzw w h
      · exact tab w h h'
      · exact va_tabs (f_kn_on h') hvm.symm (hZ.2.1 w h h')) (hsize.trans hml.symm) d0 d3 d4 d7 (fun x hx => (hno x hx).elim) hlk hRf (show _ + (13 * (2 + 1) + 42) ≤ R.locals from hRl) (Nat.le_refl _) (Nat.le_refl _)
  have hkeep : ∀ q : Nat, q < T.heap.size → U.heap[q]? = T.heap[q]? := by
    intro q hq
    obtain ⟨cq, hcq⟩ : ∃ x, T.heap[q]? = some x := ⟨_, Array.getElem?_eq_getElem hq⟩
    obtain ⟨c', e1, e2, e3, e4⟩ := h4.2.2.2.2.2 q cq (by rw [hhp]; exact hcq)
    have e1' : U.heap[q]? = some c' := e1
    have : c'.slots = cq.slots := Array.ext_getElem? (fun i => e4 i (by simp))
    rw [e1', hcq, e2, this]
  have hsz2 : T.heap.size ≤ U.heap.size := by
    have := h4.2.1
    rw [hhp] at this
    exact this
  have hsame := X.same
  refine ⟨U, st, _, h1, h2, ⟨a, ce, rfl, h5, h6, by rw [← hvm]; exact h7⟩, ?_, ?_, ?_⟩
  · intro k q hk
    have hq := hW k q hk
    refine va_at.kept hq ?_
    have hlt := hq.lt
    rw [← hT] at hlt ⊢
    exact hkeep _ hlt
  · refine ⟨Nat.le_trans hS.1 (by rw [← hT]; exact hsz2), fun q q1 q2 => ?_⟩
    rw [hkeep q (by rw [hT]; exact Nat.lt_of_lt_of_le q1 hS.1), hT]
    exact hS.2.1 q q1 q2
  · have h4' : (T.setVm s.vm).sameButNew ({ U with vm := s.vm } : State) [] 1 6 := by
      subst hs'
      obtain ⟨a1, a2, a3, a4, a5, a6⟩ := h4
      refine ⟨?_, a2, a3, a4, a5, a6⟩
      rw [State.setFrames_setFrames] at a1
      exact a1
    refine ⟨locs, by subst hs'; exact h3, ?_, hS.2.2⟩
    exact (X.same.trans h4').weaken (fun x hx _ => by simpa using hx) hc hs
end FT2
