/-! Methods with a table of handlers: their contract out of their walk, and a call of one. -/
theorem f_ofWH {l : Launch} {y : MethodName} {ws : List Cond} {d u : Nat} {L : Nat → Nat → Nat} {Ar : Nat → ClassId} {D : va_G} {b0 : Nat} {as : List Value} {z z' : fST} {o : Option Value ⊕ Nat} {cc : ByteArray} {maxL : Nat} {ret : Option FieldType} {hs : List (Nat × Nat × Nat × Nat)} (hy : plainName y.cls = true) (hcw : Cond.codeWith y cc maxL ret hs ∈ ws) (hlen : (lg_sl as).length ≤ maxL)
    (body : ∀ (p : Program) (e : Env) (s : State) (m : MethodId) (args : Array Value) (below : List Frame) (meth : Method) (c : Code) (R : Room), R.frames = d → R.locals = 40 * d → R.cells = u → R.slots = 6 * u → p.tables.exec = Jvm.exec → c.code = cc → meth.sig.returnType = ret → meth.locks = false → c.maxLocals = maxL → c.exceptionTable.toList = tableOf hs → (∀ w ∈ ws, w.before args s = true) → s.vm.findClass y.cls = some m.cls → f_K Ar D s → f_Z b0 s s.heap → b0 ≤ s.heap.size →
      f_B p l e R s m args below meth c L Ar D b0 maxL u (f_E below args s L Ar D b0 u o z') u 0 (lv_args 0 as) [] z) : f_C l y ws d u L Ar D b0 as z o z' := by
  refine MetFree.of_bodyS (code := cc) (maxLocals := maxL) (ret := ret) hy ?_ ?_
  · intro args s m h hn
    obtain ⟨m', meth, c, h0, h1, h2, h3, h4, h5, h6, h7, -⟩ := Cond.codeWith_spec (atoms_spec (ws := ws) h _ hcw)
    cases hn.symm.trans h0
    exact ⟨meth, c, h1, h2, h3, h4, h6, h7⟩
  · intro p e s m args below meth c s₁ B hml hP _
    obtain ⟨rfl, hsz, hK, hZ, hW⟩ := hP
    have hts := atoms_spec (ws := ws) B.pre
    have hh0 : s₁.heap = s.heap := by rw [B.state]; rfl
    have hte : c.exceptionTable.toList = tableOf hs := by
      obtain ⟨m', meth', c', h0, h1, h2, h3, h4, h5, h6, h7, -⟩ := Cond.codeWith_spec (hts _ hcw)
      cases B.named.symm.trans h0
      cases B.method.symm.trans h1
      cases (Stand.of_body B).code.symm.trans h2
      rw [← h5, table_eq]
    have hB := body p e s m as.toArray below meth c (headSpec ws (f_rm d u)).room rfl rfl rfl rfl B.exec B.bytes B.returns B.notSynchronized hml hte hts (findClass_of_methodNamed B.named) hK hZ hsz s.heap [] _ 0 0 hW va_S.rf (lv_entry as hlen) (by omega) (by omega)
    rw [← lg_entry_eq (m := m)] at hB
    obtain ⟨t, a1, o', b1, b2, b3⟩ := hB s₁ hh0 (Stand.of_body B)
    exact ⟨t, o', a1, b1, b2, b3⟩
def f_sw (own : String) (index : Nat) (y : MethodName) (bytes : ByteArray) (maxL : Nat) (ret : Option FieldType) (hs : List (Nat × Nat × Nat × Nat)) (n : Nat) : Prop := Cond.codeWith y bytes maxL ret hs ∈ wt ∧ Cond.initialized y.cls ∈ wt ∧ Cond.methodLink own index y ∈ wt ∧ Cond.static y ∈ wt ∧ (y.cls ≠ "java/lang/invoke/MethodHandle" ∧ y.cls ≠ "java/lang/invoke/VarHandle") ∧ (parseMethodDescriptor y.desc).map (fun d => d.parameters.length) = some n
section FSW
variable {p : Program} {l : Launch} {e : Env} {R : Room} {s : State} {m : MethodId} {args : Array Value} {below : List Frame} {meth : Method} {c : Code} {H : Heap} {locs : List Loc} {cells slots : Nat} {Q : State → Prop}
variable {cc : ByteArray} {pc nL : Nat} {ls : Array Slot} {As rest : List Value} {L : Nat → Nat → Nat} {Ar : Nat → ClassId} {D : va_G} {b0 uc d n index maxL : Nat} {z z' : fST} {own : String} {y : MethodName} {bytes : ByteArray} {ret : Option FieldType} {v : Option Value} {hh : List (Nat × Nat × Nat × Nat)}
theorem hw_SW (hx : p.tables.exec = Jvm.exec) (hb : c.code = cc) (hml : c.maxLocals = nL) (hown : s.vm.findClass own = some m.cls) (hts : ∀ w ∈ wt, w.before args s = true) (hC : f_C l y wt d uc L Ar D b0 As z (.inl v) z') (st : f_sw own index y bytes maxL ret hh n) (hK : f_K Ar D s) (hZ : f_Z b0 s s.heap) (hsz : b0 ≤ s.heap.size) (hS : va_S (f_A b0) s.heap H locs) (hW : f_W L Ar D z H) (hn : As.length = n) (hsize : ls.size = nL) (hwt : (rest.map fun v => v.category).sum ≤ 8) (hd : decode cc pc = .ok (.invokestatic index, 3)) (hf : d + 1 ≤ R.frames) (hlo : 8 + (maxL + 11) + 40 * d ≤ R.locals) (hc : cells + uc ≤ R.cells) (hs : slots + 6 * uc ≤ R.slots)
    (kk : ∀ (H1 : Heap) (locs1 : List Loc), f_W L Ar D z' H1 → va_S (f_A b0) s.heap H1 locs1 → W p l e R s m args below meth c H1 locs1 (cells + uc) (slots + 6 * uc) Q (F0 m (pc + 3) ls (v.toList ++ rest))) : W p l e R s m args below meth c H locs cells slots Q (F0 m pc ls (As.reverse ++ rest)) := by
  obtain ⟨h1, h2, h3, h4, h5, h6⟩ := st
  have hM := f_met hC
  have hwt9 := wt_at hts
  have hBk : Back l R p e below s args y 3 8 (PreOf R uc (6 * uc) (f_Pc L Ar D b0 As z)) (PostOf (fun _ st oc t => oc = .returned v ∧ f_W L Ar D z' t.heap ∧ va_F (f_A b0) st t) uc (6 * uc) (f_A b0)) := by
    refine Back.of_freeWith (handlers := hh) (S := headSpec wt (f_rm d uc)) (P := f_Pc L Ar D b0 As z) (K := fun _ _ _ _ _ => True) (Q := fun a st o t => (o = .returned v ∧ f_W L Ar D z' t.heap ∧ va_F (f_A b0) st t) ∧ ∃ L, FrameEnd st o t L uc (6 * uc) ∧ ∀ q ∈ L, f_A b0 q.base) (bytes := bytes) (maxL := maxL) (ret := ret)
      (E := fun a st o t L k n => k = uc ∧ n = 6 * uc ∧ ∀ q ∈ L, f_A b0 q.base) hM hf hlo ?_ ?_ (fun _ _ _ _ _ _ _ _ _ => trivial) ?_ ?_
    · intro m meth c A a X hp
      exact ⟨atoms_intro fun w hw => hwt9 w hw _ _ X.warmed, hwt9 _ h1 _ _ X.warmed, hwt9 _ h2 _ _ X.warmed, hp.1, hp.2.1⟩
    · intro m meth c A a g mk X hp
      exact f_Pc_blind L Ar D b0 As z _ _ _ _ hp.2.2
    · intro a st o t ⟨hq, L, hF, hL⟩
      exact ⟨L, uc, 6 * uc, hF, rfl, rfl, hL⟩
    · intro m meth c A a g mk v t L k n X hp hq hF ⟨e1, e2, hL⟩
      subst e1; subst e2
      exact ⟨g, mk, t, L, rfl, rfl, hq.1, rfl, hL, rfl, rfl⟩
  refine hw_go (v := v) (uc := uc) (rest := rest) (z' := z') ?_ hS kk
  intro T hT X
  obtain ⟨mk, methM, cM, hnamed, hmethM, -, -, -, -, -, -, hsigM⟩ := Cond.codeWith_spec (hts _ h1)
  have hstatic : methM.isStatic = true := Cond.static_spec hnamed hmethM (hts _ h4)
  obtain ⟨kP, hkP, -⟩ := className_of_methodNamed hnamed
  have hinitP : kP.init = .initialized := Cond.initialized_spec (findClass_of_methodNamed hnamed) hkP (hts _ h2)
  have hlen : As.length = methM.sig.parameters.length := by
    rw [hsigM] at h6
    rw [hn]
    exact (Option.some.inj h6).symm
  obtain ⟨vm₁, X₁, hstep₁⟩ := X.invokestatic hx hown (hts _ h3) hnamed hmethM hstatic hkP hinitP h5 (g := F0 m pc ls (As.reverse ++ rest)) rfl (argsL := As) (rest := rest) hlen rfl (by rw [hb]; exact hd)
  obtain ⟨v', ⟨U', l2, c2, s2⟩, X', ⟨g', mk', t, Lc, e1, e2, hq, k1, hL, k2, k3⟩, hsteps⟩ := hBk m meth c ⟨T.setVm vm₁, locs, cells, slots⟩ (F0 m pc ls rest) (.invokestatic index) mk As.toArray X₁ rfl (hsize.trans hml.symm) (by rw [hb]; exact hd) (lv_room hwt) (X₁.named hnamed) ⟨hc, hs, f_Pc_at hK hZ hsz hS hW hT X₁.warmed⟩
  dsimp only [Pt.U, Pt.locs, Pt.cells, Pt.slots] at X' e1 e2 k1 k2 k3 hsteps
  subst k1; subst k2; subst k3
  exact ⟨v', (T.setVm vm₁).calling g' mk' As.toArray, t, U', Lc, hT, X', hL, e1, e2, hq, fun target h => hstep₁ _ fun acts => by rw [doInvoke_state]; exact hsteps.trans h⟩
end FSW
