/-! the law's start: what the tables say, what a throw reads of the start, the addresses of all that is made -/
theorem z_lay {args args' : Array Value} {s U : State} (hv : s.vm.Alike U.vm) (hq : ∀ q : Nat, q < s.heap.size → U.heap[q]? = s.heap[q]?) {O f d : String} (h : (Cond.laysStatic O f d).before args s = true) : (Cond.laysStatic O f d).before args' U = true := by
  obtain ⟨c, k, i, fd, a, cell, hc, hf, hst, hsta, hcell, hiss, hcls, hlt, hty⟩ := Cond.laysStatic_spec h
  obtain ⟨k', hf', he⟩ := State.fieldFound?_setVm hv hf
  have hf2 : U.fieldFound? O f d = some (c, k', i, fd) := hf'
  have hc2 : U.vm.findClass O = some c := by rw [hv.findClass]; exact hc
  have ha : U.heap[a]? = some cell := by rw [hq a (Array.getElem?_eq_some_iff.mp hcell).1]; exact hcell
  have h1 : k'.statics = some a := by rw [he]; exact hsta
  have h2 : k'.staticTypes[fd.slot]? = some fd.type := by rw [he]; exact hty
  simp [Cond.before, Cond.holds, Cond.value, hc2, hf2, hst, h1, ha, hiss, hcls, hlt, h2]
theorem z_ref {args args' : Array Value} {s U : State} (hv : s.vm.Alike U.vm) (hq : ∀ q : Nat, q < s.heap.size → U.heap[q]? = s.heap[q]?) {O f d : String} (h : (Cond.laysStatic O f d).before args s = true) (hr : (Cond.isRef (.static O f d)).before args s = true) : (Cond.isRef (.static O f d)).before args' U = true := by
  obtain ⟨c, k, i, fd, a, cell, hc, hf, hst, hsta, hcell, hiss, hcls, hlt, hty⟩ := Cond.laysStatic_spec h
  obtain ⟨k', hf', he⟩ := State.fieldFound?_setVm hv hf
  have hf2 : U.fieldFound? O f d = some (c, k', i, fd) := hf'
  have ha : U.heap[a]? = some cell := by rw [hq a (Array.getElem?_eq_some_iff.mp hcell).1]; exact hcell
  have h1 : k'.statics = some a := by rw [he]; exact hsta
  have e1 : (Term.static O f d).eval args s none [] s = cell.slots[fd.slot]? := by simp [Term.eval, State.fieldNamed?, hf, hst, hsta, hcell, hiss]
  have e2 : (Term.static O f d).eval args' U none [] U = cell.slots[fd.slot]? := by simp [Term.eval, State.fieldNamed?, hf2, hst, h1, ha, hiss]
  simp only [Cond.before, Cond.holds, Cond.value, e1] at hr
  simp only [Cond.before, Cond.holds, Cond.value, e2]
  exact hr
theorem z_Z0 {args : Array Value} {s : State} (h : ∀ w ∈ f_zw, w.before args s = true) : f_Z0 s.heap.size s s.heap := by
  intro a U hv hq w hw
  have l1 := h (.laysStatic "java/lang/Throwable" "UNASSIGNED_STACK" "[Ljava/lang/StackTraceElement;") (by simp [f_zw])
  have l2 := h (.laysStatic "java/lang/Throwable" "SUPPRESSED_SENTINEL" "Ljava/util/List;") (by simp [f_zw])
  have r1 := h (.isRef (.static "java/lang/Throwable" "UNASSIGNED_STACK" "[Ljava/lang/StackTraceElement;")) (by simp [f_zw])
  have r2 := h (.isRef (.static "java/lang/Throwable" "SUPPRESSED_SENTINEL" "Ljava/util/List;")) (by simp [f_zw])
  simp only [f_zw, List.mem_cons, List.not_mem_nil, or_false] at hw
  rcases hw with rfl | rfl | rfl | rfl
  · exact z_ref hv hq l1 r1
  · exact z_ref hv hq l2 r2
  · exact z_lay hv hq l1
  · exact z_lay hv hq l2

theorem x_known {args : Array Value} {s : State} (hts : ∀ w ∈ wt, w.before args s = true) : ∀ c : Nat, ∃ y : ClassId × (Nat → Nat), ∀ q : vw_C, vwCl[c]? = some q → u_Kn s q.1 q.2.1 q.2.2 y.1 y.2
  | 0 => by
    obtain ⟨cC, iS, h⟩ := u_known (n := 12) hts in_b (hts _ (wt_in (List.mem_of_getElem? (i := 19) (by decide +kernel)) rfl))
    exact ⟨(cC, iS), fun q hq => by cases hq; exact h⟩
  | 1 => by
    obtain ⟨cC, iS, h⟩ := u_known (n := 8) hts in_ca (hts _ (wt_in (List.mem_of_getElem? (i := 27) (by decide +kernel)) rfl))
    exact ⟨(cC, iS), fun q hq => by cases hq; exact h⟩
  | 2 => by
    obtain ⟨cC, iS, h⟩ := u_known (n := 3) hts in_be (hts _ (wt_in (List.mem_of_getElem? (i := 63) (by decide +kernel)) rfl))
    exact ⟨(cC, iS), fun q hq => by cases hq; exact h⟩
  | 3 => by
    obtain ⟨cC, iS, h⟩ := u_known (n := 9) hts in_co (hts _ (wt_in (List.mem_of_getElem? (i := 70) (by decide +kernel)) rfl))
    exact ⟨(cC, iS), fun q hq => by cases hq; exact h⟩
  | 4 => by
    obtain ⟨cC, iS, h⟩ := u_known (n := 2) hts in_ro (hts _ (wt_in (List.mem_of_getElem? (i := 76) (by decide +kernel)) rfl))
    exact ⟨(cC, iS), fun q hq => by cases hq; exact h⟩
  | 5 => by
    obtain ⟨cC, iS, h⟩ := u_known (n := 2) hts in_bi (hts _ (wt_in (List.mem_of_getElem? (i := 147) (by decide +kernel)) rfl))
    exact ⟨(cC, iS), fun q hq => by cases hq; exact h⟩
  | 6 => by
    obtain ⟨cC, iS, h⟩ := u_known (n := 6) hts in_vo (hts _ (wt_in (List.mem_of_getElem? (i := 162) (by decide +kernel)) rfl))
    exact ⟨(cC, iS), fun q hq => by cases hq; exact h⟩
  | 7 => by
    obtain ⟨cC, iS, h⟩ := u_known (n := 3) hts in_jo (hts _ (wt_in (List.mem_of_getElem? (i := 192) (by decide +kernel)) rfl))
    exact ⟨(cC, iS), fun q hq => by cases hq; exact h⟩
  | 8 => by
    obtain ⟨cC, iS, h⟩ := u_known (n := 2) hts in_la (hts _ (wt_in (List.mem_of_getElem? (i := 211) (by decide +kernel)) rfl))
    exact ⟨(cC, iS), fun q hq => by cases hq; exact h⟩
  | 9 => by
    obtain ⟨cC, iS, h⟩ := u_known (n := 26) hts in_m (hts _ (wt_in (List.mem_of_getElem? (i := 712) (by decide +kernel)) rfl))
    exact ⟨(cC, iS), fun q hq => by cases hq; exact h⟩
  | n + 10 => ⟨(0, fun _ => 0), fun q hq => by cases hq⟩
theorem x_tables {args : Array Value} {s : State} (htb : ∀ w ∈ lw_tbl, w.before args s = true) (hN : va_Nc "java/lang/IllegalArgumentException" "java/lang/IllegalStateException" s) : ∃ (D : va_G) (Ar : Nat → ClassId), x_K Ar D s := by
  obtain ⟨F, hF⟩ := Classical.skolem.mp (x_known (wt_of htb))
  obtain ⟨a0, k0, c0, e0, f0, g0⟩ := Cond.arrayClass_spec (type := .int) (htb _ (List.mem_append_right _ (List.mem_of_getElem? (i := 61) (by decide +kernel))))
  obtain ⟨a1, k1, c1, e1, f1, g1⟩ := Cond.arrayClass_spec (type := .boolean) (htb _ (List.mem_append_right _ (List.mem_of_getElem? (i := 190) (by decide +kernel))))
  obtain ⟨a2, k2, c2, e2, f2, g2⟩ := Cond.arrayClass_spec (type := .long) (htb _ (List.mem_append_right _ (List.mem_of_getElem? (i := 968) (by decide +kernel))))
  have h3 : va_AO "BottleReturn$Container" s := va_AO.of (htb _ (List.mem_append_right _ (List.mem_of_getElem? (i := 69) (by decide +kernel))))
  obtain ⟨c3, a3, k3, d3, -, f3, g3, e3⟩ := Cond.arrayOver_spec h3
  obtain ⟨c4, a4, k4, d4, -, f4, g4, e4⟩ := arrayOverA_spec (t := .int) (htb _ (List.mem_append_right _ (List.mem_of_getElem? (i := 33) (by decide +kernel))))
  have h04 : c4 = a0 := Option.some.inj (d4.symm.trans e0)
  subst h04
  have hA : ∀ {a c : ClassId} {k : Class} {ty : FieldType}, s.vm.classes[a]? = some k → k.kind = .array c ty → ArrOfT s a ty := fun h1 h2 n z => ⟨fun _ h => (by cases h), _, h1, _, h2⟩
  refine ⟨(fun c => (F c).1, fun c => (F c).2), fun n => if n = 0 then c4 else if n = 1 then a1 else if n = 2 then a2 else if n = 3 then a3 else a4, ⟨fun c q hq => hF c q hq, fun k q hk => ?_⟩, ⟨fun w h1 h2 => va_Nw.of (f_kn_on h2) (htb w (List.mem_append_right _ h1)), hN⟩, h3, k4, f4, g4⟩
  match k, hk with
  | 0, hk => cases hk; exact ⟨hA f0 g0, e0⟩
  | 1, hk => cases hk; exact ⟨hA f1 g1, e1⟩
  | 2, hk => cases hk; exact ⟨hA f2 g2, e2⟩
  | 3, hk => cases hk; exact ⟨hA f3 g3, k3, c3, f3, g3, d3, e3⟩
  | 4, hk => cases hk; exact ⟨hA f4 g4, e4⟩
  | n + 5, hk => cases hk
def x_L (qb : Nat) (u : x_S) (qm : Nat) (v : Nat × Nat × Nat × Nat × Nat × Nat × Nat × Nat × Nat × Nat × Nat) (qo : Nat) (k i : Nat) : Nat := if k = 0 then qb else if k = 1 then u.1.1 else if k = 2 then u.1.2.1.1 else if k = 3 then u.1.2.1.2.1 else if k = 4 then u.1.2.1.2.2.1 else if k = 5 then u.1.2.1.2.2.2.1 else if k = 6 then u.1.2.1.2.2.2.2.1 else if k = 7 then u.1.2.1.2.2.2.2.2 else if k = 8 then u.1.2.2.1 else if k = 9 then u.1.2.2.1 + 1 + i else if k = 10 then u.1.2.2.2 else if k = 11 then u.2.1.1 else if k = 12 then u.2.1.2.1 else if k = 13 then u.2.1.2.2.1 i else if k = 14 then (if i < 16 then (u.2.1.2.2.2 i).1 else (u.2.1.2.2.2 (i - 16)).2.2.1) else if k = 15 then (if i < 16 then (u.2.1.2.2.2 i).2.1 else (u.2.1.2.2.2 (i - 16)).2.2.2) else if k = 16 then u.2.2.1.1 else if k = 17 then u.2.2.1.2.1 else if k = 18 then u.2.2.1.2.2 else if k = 19 then u.2.2.2.1.1 else if k = 20 then u.2.2.2.1.2.1 else if k = 21 then u.2.2.2.1.2.2.1 else if k = 22 then u.2.2.2.1.2.2.2 else if k = 23 then u.2.2.2.2.1.1 else if k = 24 then u.2.2.2.2.2.1.1 else if k = 25 then u.2.2.2.2.2.1.2 else if k = 26 then u.2.2.2.2.2.2 else if k = 30 then qm else if k = 31 then v.1 else if k = 32 then v.2.1 else if k = 33 then v.2.2.1 else if k = 34 then v.2.2.2.1 else if k = 35 then v.2.2.2.2.1 else if k = 36 then v.2.2.2.2.2.1 else if k = 37 then v.2.2.2.2.2.2.1 else if k = 38 then v.2.2.2.2.2.2.2.1 else if k = 39 then v.2.2.2.2.2.2.2.2.1 else if k = 40 then v.2.2.2.2.2.2.2.2.2.1 else if k = 41 then v.2.2.2.2.2.2.2.2.2.2 else qo
def x_all (Ar : Nat → ClassId) (qb : Nat) (u : x_S) (qm : Nat) (v : Nat × Nat × Nat × Nat × Nat × Nat × Nat × Nat × Nat × Nat × Nat) (qo : Nat) : va_W := (w_b Ar qb u ++ w_m Ar qm v) ++ [(qo, .inl (Ar 2, 1, .inr (.inl (fun _ => 0))))]
theorem xc_2 {L : Nat → Nat → Nat} {Ar : Nat → ClassId} {i : Nat} : f_cell L Ar f_z0 2 i = .inl (Ar 0, 40, .inl (fun _ => 0)) := rfl
theorem xc_3 {L : Nat → Nat → Nat} {Ar : Nat → ClassId} {i : Nat} : f_cell L Ar f_z0 3 i = .inl (Ar 0, 40, .inl (fun _ => 0)) := rfl
theorem xc_4 {L : Nat → Nat → Nat} {Ar : Nat → ClassId} {i : Nat} : f_cell L Ar f_z0 4 i = .inl (Ar 0, 40, .inl (fun _ => 0)) := rfl
theorem xc_5 {L : Nat → Nat → Nat} {Ar : Nat → ClassId} {i : Nat} : f_cell L Ar f_z0 5 i = .inl (Ar 0, 40, .inl (fun _ => 0)) := rfl
theorem xc_6 {L : Nat → Nat → Nat} {Ar : Nat → ClassId} {i : Nat} : f_cell L Ar f_z0 6 i = .inl (Ar 0, 40, .inl (fun _ => 0)) := rfl
theorem xc_7 {L : Nat → Nat → Nat} {Ar : Nat → ClassId} {i : Nat} : f_cell L Ar f_z0 7 i = .inl (Ar 0, 40, .inl (fun _ => 0)) := rfl
theorem xc_9 {L : Nat → Nat → Nat} {Ar : Nat → ClassId} {i : Nat} : f_cell L Ar f_z0 9 i = .inl (Ar 0, 8, .inl (fun _ => 0)) := rfl
theorem xc_10 {L : Nat → Nat → Nat} {Ar : Nat → ClassId} {i : Nat} : f_cell L Ar f_z0 10 i = .inl (Ar 0, 8, .inl (fun _ => 0)) := rfl
theorem xc_17 {L : Nat → Nat → Nat} {Ar : Nat → ClassId} {i : Nat} : f_cell L Ar f_z0 17 i = .inl (Ar 0, 3, .inl (fun _ => 0)) := rfl
theorem xc_18 {L : Nat → Nat → Nat} {Ar : Nat → ClassId} {i : Nat} : f_cell L Ar f_z0 18 i = .inl (Ar 0, 3, .inl (fun _ => 30)) := rfl
theorem xc_20 {L : Nat → Nat → Nat} {Ar : Nat → ClassId} {i : Nat} : f_cell L Ar f_z0 20 i = .inl (Ar 0, 60, .inl (fun _ => 0)) := rfl
theorem xc_21 {L : Nat → Nat → Nat} {Ar : Nat → ClassId} {i : Nat} : f_cell L Ar f_z0 21 i = .inl (Ar 0, 60, .inl (fun _ => 0)) := rfl
theorem xc_22 {L : Nat → Nat → Nat} {Ar : Nat → ClassId} {i : Nat} : f_cell L Ar f_z0 22 i = .inl (Ar 1, 60, .inl (fun _ => 0)) := rfl
theorem xc_25 {L : Nat → Nat → Nat} {Ar : Nat → ClassId} {i : Nat} : f_cell L Ar f_z0 25 i = .inl (Ar 0, 8, .inl (fun _ => 0)) := rfl
theorem xc_26 {L : Nat → Nat → Nat} {Ar : Nat → ClassId} {i : Nat} : f_cell L Ar f_z0 26 i = .inl (Ar 0, 10, .inl (fun _ => 0)) := rfl
theorem xc_31 {L : Nat → Nat → Nat} {Ar : Nat → ClassId} {i : Nat} : f_cell L Ar f_z0 31 i = .inl (Ar 0, 64, .inl (fun _ => 0)) := rfl
theorem xc_32 {L : Nat → Nat → Nat} {Ar : Nat → ClassId} {i : Nat} : f_cell L Ar f_z0 32 i = .inl (Ar 0, 8, .inl (fun _ => 0)) := rfl
theorem xc_33 {L : Nat → Nat → Nat} {Ar : Nat → ClassId} {i : Nat} : f_cell L Ar f_z0 33 i = .inl (Ar 0, 240, .inl (fun _ => 0)) := rfl
theorem xc_34 {L : Nat → Nat → Nat} {Ar : Nat → ClassId} {i : Nat} : f_cell L Ar f_z0 34 i = .inl (Ar 0, 1200, .inl (fun _ => 0)) := rfl
theorem xc_35 {L : Nat → Nat → Nat} {Ar : Nat → ClassId} {i : Nat} : f_cell L Ar f_z0 35 i = .inl (Ar 0, 3, .inl (fun _ => 0)) := rfl
theorem xc_36 {L : Nat → Nat → Nat} {Ar : Nat → ClassId} {i : Nat} : f_cell L Ar f_z0 36 i = .inl (Ar 0, 3, .inl (fun _ => 30)) := rfl
theorem xc_37 {L : Nat → Nat → Nat} {Ar : Nat → ClassId} {i : Nat} : f_cell L Ar f_z0 37 i = .inl (Ar 0, 60, .inl (fun _ => 0)) := rfl
theorem xc_38 {L : Nat → Nat → Nat} {Ar : Nat → ClassId} {i : Nat} : f_cell L Ar f_z0 38 i = .inl (Ar 0, 60, .inl (fun _ => 0)) := rfl
theorem xc_39 {L : Nat → Nat → Nat} {Ar : Nat → ClassId} {i : Nat} : f_cell L Ar f_z0 39 i = .inl (Ar 1, 60, .inl (fun _ => 0)) := rfl
theorem xc_40 {L : Nat → Nat → Nat} {Ar : Nat → ClassId} {i : Nat} : f_cell L Ar f_z0 40 i = .inl (Ar 0, 24, .inl (fun _ => 0)) := rfl
theorem xc_41 {L : Nat → Nat → Nat} {Ar : Nat → ClassId} {i : Nat} : f_cell L Ar f_z0 41 i = .inl (Ar 0, 10, .inl (fun _ => 0)) := rfl
theorem xc_0 {L : Nat → Nat → Nat} {Ar : Nat → ClassId} {i : Nat} : f_cell L Ar f_z0 0 i = .inr (0, [.ref (L 1 i), .ref (L 11 i), .ref (L 16 i), .ref (L 19 i), .ref (L 23 i), .ref (L 24 i), .ref (L 26 i), .int 0, .int 0, .int 0, .int 0, .int 0]) := rfl
theorem xc_1 {L : Nat → Nat → Nat} {Ar : Nat → ClassId} {i : Nat} : f_cell L Ar f_z0 1 i = .inr (1, [.ref (L 2 i), .ref (L 3 i), .ref (L 4 i), .ref (L 5 i), .ref (L 6 i), .ref (L 7 i), .ref (L 8 i), .ref (L 10 i)]) := rfl
theorem xc_11 {L : Nat → Nat → Nat} {Ar : Nat → ClassId} {i : Nat} : f_cell L Ar f_z0 11 i = .inr (2, [.ref (L 12 i), .int 0, .int 0]) := rfl
theorem xc_13 {L : Nat → Nat → Nat} {Ar : Nat → ClassId} {i : Nat} : f_cell L Ar f_z0 13 i = .inr (3, [.ref (L 14 i), .ref (L 14 (i + 16)), .int 0, .int 0, .int 0, .int 0, .int 0, .int 0, .int 0]) := rfl
theorem xc_14 {L : Nat → Nat → Nat} {Ar : Nat → ClassId} {i : Nat} : f_cell L Ar f_z0 14 i = .inr (4, [.ref (L 15 i), .int 0]) := rfl
theorem xc_16 {L : Nat → Nat → Nat} {Ar : Nat → ClassId} {i : Nat} : f_cell L Ar f_z0 16 i = .inr (5, [.ref (L 17 i), .ref (L 18 i)]) := rfl
theorem xc_19 {L : Nat → Nat → Nat} {Ar : Nat → ClassId} {i : Nat} : f_cell L Ar f_z0 19 i = .inr (6, [.ref (L 20 i), .ref (L 21 i), .ref (L 22 i), .int 0, .int 0, .int 0]) := rfl
theorem xc_23 {L : Nat → Nat → Nat} {Ar : Nat → ClassId} {i : Nat} : f_cell L Ar f_z0 23 i = .inr (7, [.int 0, .int 0, .int 1]) := rfl
theorem xc_24 {L : Nat → Nat → Nat} {Ar : Nat → ClassId} {i : Nat} : f_cell L Ar f_z0 24 i = .inr (8, [.ref (L 25 i), .int 0]) := rfl
theorem xc_30 {L : Nat → Nat → Nat} {Ar : Nat → ClassId} {i : Nat} : f_cell L Ar f_z0 30 i = .inr (9, [.ref (L 31 i), .ref (L 32 i), .ref (L 33 i), .ref (L 34 i), .int 0, .int 0, .ref (L 35 i), .ref (L 36 i), .int 0, .ref (L 37 i), .ref (L 38 i), .ref (L 39 i), .int 0, .int 0, .ref (L 40 i), .int 0, .int 0, .int 0, .int 0, .int 0, .ref (L 41 i), .int 0, .int 0, .int 0, .int 0, .int 0]) := rfl
theorem xc_15a {L : Nat → Nat → Nat} {Ar : Nat → ClassId} {i : Nat} (h : i < 16) : f_cell L Ar f_z0 15 i = .inl (Ar 0, 3, .inl (fun _ => 0)) := by
  have e : f_al 15 i = 3 := by simp [f_al, f_ln, h]
  show Sum.inl (Ar 0, f_al 15 i, Sum.inl (fun _ => 0)) = _
  rw [e]
theorem xc_15b {L : Nat → Nat → Nat} {Ar : Nat → ClassId} {i : Nat} : f_cell L Ar f_z0 15 (i + 16) = .inl (Ar 0, 8, .inl (fun _ => 0)) := by
  have e : f_al 15 (i + 16) = 8 := by simp [f_al, f_ln]
  show Sum.inl (Ar 0, f_al 15 (i + 16), Sum.inl (fun _ => 0)) = _
  rw [e]
theorem xc_12 {L : Nat → Nat → Nat} {Ar : Nat → ClassId} {i : Nat} : f_cell L Ar f_z0 12 i = .inl (Ar 3, 16, .inr (.inr (.inr (.inr (fun j => some (L 13 j)))))) := rfl
theorem xc_8 {L : Nat → Nat → Nat} {Ar : Nat → ClassId} {i : Nat} : f_cell L Ar f_z0 8 i = .inl (Ar 4, 8, .inr (.inr (.inr (.inr (fun j => some (L 9 j)))))) := rfl
theorem xc_50 {L : Nat → Nat → Nat} {Ar : Nat → ClassId} {i : Nat} : f_cell L Ar f_z0 50 i = .inl (Ar 2, 1, .inr (.inl (fun _ => 0))) := rfl
def x_F (L : Nat → Nat → Nat) (Ar : Nat → ClassId) (q : Nat × Nat) : Nat × va_E := (L q.1 q.2, f_cell L Ar f_z0 q.1 q.2)
def x_oca : List (Nat × Nat) := [(1, 0), (2, 0), (3, 0), (4, 0), (5, 0), (6, 0), (7, 0), (8, 0), (9, 0), (9, 1), (9, 2), (9, 3), (9, 4), (9, 5), (9, 6), (9, 7), (10, 0)]
def x_obl : Nat → List (Nat × Nat)
  | 0 => []
  | i + 1 => x_obl i ++ [(13, i), (14, i), (15, i), (14, i + 16), (15, i + 16)]
def x_obe : List (Nat × Nat) := (11, 0) :: (12, 0) :: x_obl 16
def x_obi : List (Nat × Nat) := [(16, 0), (17, 0), (18, 0)]
def x_ovo : List (Nat × Nat) := [(19, 0), (20, 0), (21, 0), (22, 0)]
def x_ojo : List (Nat × Nat) := [(23, 0)]
def x_ola : List (Nat × Nat) := [(24, 0), (25, 0)]
def x_om : List (Nat × Nat) := [(30, 0), (31, 0), (32, 0), (33, 0), (34, 0), (35, 0), (36, 0), (37, 0), (38, 0), (39, 0), (40, 0), (41, 0)]
def x_ord : List (Nat × Nat) := (((0, 0) :: ((((((x_oca ++ x_obe) ++ x_obi) ++ x_ovo) ++ x_ojo) ++ x_ola) ++ [(26, 0)])) ++ x_om) ++ [(50, 0)]
theorem x_ord_in : ∀ q ∈ f_en, q ∈ x_ord := by decide +kernel
theorem x_ra {k i : Nat} {e : va_E} {L : Nat → Nat → Nat} {Ar : Nat → ClassId} (h : f_cell L Ar f_z0 k i = e) : x_F L Ar (k, i) = (L k i, e) := by
  show (L k i, f_cell L Ar f_z0 k i) = _
  rw [h]
theorem x_sca {L : Nat → Nat → Nat} {Ar : Nat → ClassId} (h9 : ∀ j, L 9 j = L 8 0 + 1 + j) : x_oca.map (x_F L Ar) = w_ca Ar (L 1 0) ((L 2 0, L 3 0, L 4 0, L 5 0, L 6 0, L 7 0), L 8 0, L 10 0) := by
  have e8 : f_cell L Ar f_z0 8 0 = .inl (Ar 4, 8, .inr (.inr (.inr (.inr (fun j => some (L 8 0 + 1 + j)))))) := by
    rw [xc_8]
    simp only [h9]
  simp only [x_oca, List.map_cons, List.map_nil, x_ra (xc_1 (i := 0)), x_ra (xc_2 (i := 0)), x_ra (xc_3 (i := 0)), x_ra (xc_4 (i := 0)), x_ra (xc_5 (i := 0)), x_ra (xc_6 (i := 0)), x_ra (xc_7 (i := 0)), x_ra (xc_10 (i := 0)), x_ra e8, x_ra (xc_9 (i := 0)), x_ra (xc_9 (i := 1)), x_ra (xc_9 (i := 2)), x_ra (xc_9 (i := 3)), x_ra (xc_9 (i := 4)), x_ra (xc_9 (i := 5)), x_ra (xc_9 (i := 6)), x_ra (xc_9 (i := 7))]
  simp only [h9]
  rfl
theorem x_sbl {L : Nat → Nat → Nat} {Ar : Nat → ClassId} : ∀ i : Nat, i ≤ 16 → (x_obl i).map (x_F L Ar) = x_bl Ar (L 13) (fun i => (L 14 i, L 15 i, L 14 (i + 16), L 15 (i + 16))) i
  | 0, _ => rfl
  | i + 1, h => by
    simp only [x_obl, x_bl, List.map_append, List.map_cons, List.map_nil, x_sbl i (by omega), x_ra (xc_13 (i := i)), x_ra (xc_14 (i := i)), x_ra (xc_14 (i := i + 16)), x_ra (xc_15a (i := i) (by omega)), x_ra (xc_15b (i := i))]
    rfl
theorem x_sbe {L : Nat → Nat → Nat} {Ar : Nat → ClassId} : x_obe.map (x_F L Ar) = w_be Ar (L 11 0) (L 12 0, L 13, fun i => (L 14 i, L 15 i, L 14 (i + 16), L 15 (i + 16))) := by
  simp only [x_obe, List.map_cons, x_sbl 16 (Nat.le_refl _), x_ra (xc_11 (i := 0)), x_ra (xc_12 (i := 0))]
  rfl
theorem x_sbi {L : Nat → Nat → Nat} {Ar : Nat → ClassId} : x_obi.map (x_F L Ar) = w_bi Ar (L 16 0) (L 17 0, L 18 0) := by
  simp only [x_obi, List.map_cons, List.map_nil, x_ra (xc_16 (i := 0)), x_ra (xc_17 (i := 0)), x_ra (xc_18 (i := 0))]
  rfl
theorem x_svo {L : Nat → Nat → Nat} {Ar : Nat → ClassId} : x_ovo.map (x_F L Ar) = w_vo Ar (L 19 0) (L 20 0, L 21 0, L 22 0) := by
  simp only [x_ovo, List.map_cons, List.map_nil, x_ra (xc_19 (i := 0)), x_ra (xc_20 (i := 0)), x_ra (xc_21 (i := 0)), x_ra (xc_22 (i := 0))]
  rfl
theorem x_sjo {L : Nat → Nat → Nat} {Ar : Nat → ClassId} : x_ojo.map (x_F L Ar) = w_jo (L 23 0) () := by
  simp only [x_ojo, List.map_cons, List.map_nil, x_ra (xc_23 (i := 0))]
  rfl
theorem x_sla {L : Nat → Nat → Nat} {Ar : Nat → ClassId} : x_ola.map (x_F L Ar) = w_la Ar (L 24 0) (L 25 0) := by
  simp only [x_ola, List.map_cons, List.map_nil, x_ra (xc_24 (i := 0)), x_ra (xc_25 (i := 0))]
  rfl
theorem x_sm {L : Nat → Nat → Nat} {Ar : Nat → ClassId} : x_om.map (x_F L Ar) = w_m Ar (L 30 0) (L 31 0, L 32 0, L 33 0, L 34 0, L 35 0, L 36 0, L 37 0, L 38 0, L 39 0, L 40 0, L 41 0) := by
  simp only [x_om, List.map_cons, List.map_nil, x_ra (xc_30 (i := 0)), x_ra (xc_31 (i := 0)), x_ra (xc_32 (i := 0)), x_ra (xc_33 (i := 0)), x_ra (xc_34 (i := 0)), x_ra (xc_35 (i := 0)), x_ra (xc_36 (i := 0)), x_ra (xc_37 (i := 0)), x_ra (xc_38 (i := 0)), x_ra (xc_39 (i := 0)), x_ra (xc_40 (i := 0)), x_ra (xc_41 (i := 0))]
  rfl
theorem x_seg {L : Nat → Nat → Nat} {Ar : Nat → ClassId} (h9 : ∀ j, L 9 j = L 8 0 + 1 + j) : x_ord.map (x_F L Ar) = x_all Ar (L 0 0) ((L 1 0, ((L 2 0, L 3 0, L 4 0, L 5 0, L 6 0, L 7 0), L 8 0, L 10 0)), (L 11 0, (L 12 0, L 13, fun i => (L 14 i, L 15 i, L 14 (i + 16), L 15 (i + 16)))), (L 16 0, (L 17 0, L 18 0)), (L 19 0, (L 20 0, L 21 0, L 22 0)), (L 23 0, ()), (L 24 0, L 25 0), L 26 0) (L 30 0) (L 31 0, L 32 0, L 33 0, L 34 0, L 35 0, L 36 0, L 37 0, L 38 0, L 39 0, L 40 0, L 41 0) (L 50 0) := by
  simp only [x_ord, List.map_append, List.map_cons, List.map_nil, x_sca h9, x_sbe, x_sbi, x_svo, x_sjo, x_sla, x_sm, x_ra (xc_0 (i := 0)), x_ra (xc_26 (i := 0)), x_ra (xc_50 (i := 0))]
  rfl
theorem xl_0 (qb : Nat) (u : x_S) (qm : Nat) (v : Nat × Nat × Nat × Nat × Nat × Nat × Nat × Nat × Nat × Nat × Nat) (qo : Nat) (i : Nat) : x_L qb u qm v qo 0 i = qb := rfl
theorem xl_1 (qb : Nat) (u : x_S) (qm : Nat) (v : Nat × Nat × Nat × Nat × Nat × Nat × Nat × Nat × Nat × Nat × Nat) (qo : Nat) (i : Nat) : x_L qb u qm v qo 1 i = u.1.1 := rfl
theorem xl_2 (qb : Nat) (u : x_S) (qm : Nat) (v : Nat × Nat × Nat × Nat × Nat × Nat × Nat × Nat × Nat × Nat × Nat) (qo : Nat) (i : Nat) : x_L qb u qm v qo 2 i = u.1.2.1.1 := rfl
theorem xl_3 (qb : Nat) (u : x_S) (qm : Nat) (v : Nat × Nat × Nat × Nat × Nat × Nat × Nat × Nat × Nat × Nat × Nat) (qo : Nat) (i : Nat) : x_L qb u qm v qo 3 i = u.1.2.1.2.1 := rfl
theorem xl_4 (qb : Nat) (u : x_S) (qm : Nat) (v : Nat × Nat × Nat × Nat × Nat × Nat × Nat × Nat × Nat × Nat × Nat) (qo : Nat) (i : Nat) : x_L qb u qm v qo 4 i = u.1.2.1.2.2.1 := rfl
theorem xl_5 (qb : Nat) (u : x_S) (qm : Nat) (v : Nat × Nat × Nat × Nat × Nat × Nat × Nat × Nat × Nat × Nat × Nat) (qo : Nat) (i : Nat) : x_L qb u qm v qo 5 i = u.1.2.1.2.2.2.1 := rfl
theorem xl_6 (qb : Nat) (u : x_S) (qm : Nat) (v : Nat × Nat × Nat × Nat × Nat × Nat × Nat × Nat × Nat × Nat × Nat) (qo : Nat) (i : Nat) : x_L qb u qm v qo 6 i = u.1.2.1.2.2.2.2.1 := rfl
theorem xl_7 (qb : Nat) (u : x_S) (qm : Nat) (v : Nat × Nat × Nat × Nat × Nat × Nat × Nat × Nat × Nat × Nat × Nat) (qo : Nat) (i : Nat) : x_L qb u qm v qo 7 i = u.1.2.1.2.2.2.2.2 := rfl
theorem xl_8 (qb : Nat) (u : x_S) (qm : Nat) (v : Nat × Nat × Nat × Nat × Nat × Nat × Nat × Nat × Nat × Nat × Nat) (qo : Nat) (i : Nat) : x_L qb u qm v qo 8 i = u.1.2.2.1 := rfl
theorem xl_10 (qb : Nat) (u : x_S) (qm : Nat) (v : Nat × Nat × Nat × Nat × Nat × Nat × Nat × Nat × Nat × Nat × Nat) (qo : Nat) (i : Nat) : x_L qb u qm v qo 10 i = u.1.2.2.2 := rfl
theorem xl_11 (qb : Nat) (u : x_S) (qm : Nat) (v : Nat × Nat × Nat × Nat × Nat × Nat × Nat × Nat × Nat × Nat × Nat) (qo : Nat) (i : Nat) : x_L qb u qm v qo 11 i = u.2.1.1 := rfl
theorem xl_12 (qb : Nat) (u : x_S) (qm : Nat) (v : Nat × Nat × Nat × Nat × Nat × Nat × Nat × Nat × Nat × Nat × Nat) (qo : Nat) (i : Nat) : x_L qb u qm v qo 12 i = u.2.1.2.1 := rfl
theorem xl_16 (qb : Nat) (u : x_S) (qm : Nat) (v : Nat × Nat × Nat × Nat × Nat × Nat × Nat × Nat × Nat × Nat × Nat) (qo : Nat) (i : Nat) : x_L qb u qm v qo 16 i = u.2.2.1.1 := rfl
theorem xl_17 (qb : Nat) (u : x_S) (qm : Nat) (v : Nat × Nat × Nat × Nat × Nat × Nat × Nat × Nat × Nat × Nat × Nat) (qo : Nat) (i : Nat) : x_L qb u qm v qo 17 i = u.2.2.1.2.1 := rfl
theorem xl_18 (qb : Nat) (u : x_S) (qm : Nat) (v : Nat × Nat × Nat × Nat × Nat × Nat × Nat × Nat × Nat × Nat × Nat) (qo : Nat) (i : Nat) : x_L qb u qm v qo 18 i = u.2.2.1.2.2 := rfl
theorem xl_19 (qb : Nat) (u : x_S) (qm : Nat) (v : Nat × Nat × Nat × Nat × Nat × Nat × Nat × Nat × Nat × Nat × Nat) (qo : Nat) (i : Nat) : x_L qb u qm v qo 19 i = u.2.2.2.1.1 := rfl
theorem xl_20 (qb : Nat) (u : x_S) (qm : Nat) (v : Nat × Nat × Nat × Nat × Nat × Nat × Nat × Nat × Nat × Nat × Nat) (qo : Nat) (i : Nat) : x_L qb u qm v qo 20 i = u.2.2.2.1.2.1 := rfl
theorem xl_21 (qb : Nat) (u : x_S) (qm : Nat) (v : Nat × Nat × Nat × Nat × Nat × Nat × Nat × Nat × Nat × Nat × Nat) (qo : Nat) (i : Nat) : x_L qb u qm v qo 21 i = u.2.2.2.1.2.2.1 := rfl
theorem xl_22 (qb : Nat) (u : x_S) (qm : Nat) (v : Nat × Nat × Nat × Nat × Nat × Nat × Nat × Nat × Nat × Nat × Nat) (qo : Nat) (i : Nat) : x_L qb u qm v qo 22 i = u.2.2.2.1.2.2.2 := rfl
theorem xl_23 (qb : Nat) (u : x_S) (qm : Nat) (v : Nat × Nat × Nat × Nat × Nat × Nat × Nat × Nat × Nat × Nat × Nat) (qo : Nat) (i : Nat) : x_L qb u qm v qo 23 i = u.2.2.2.2.1.1 := rfl
theorem xl_24 (qb : Nat) (u : x_S) (qm : Nat) (v : Nat × Nat × Nat × Nat × Nat × Nat × Nat × Nat × Nat × Nat × Nat) (qo : Nat) (i : Nat) : x_L qb u qm v qo 24 i = u.2.2.2.2.2.1.1 := rfl
theorem xl_25 (qb : Nat) (u : x_S) (qm : Nat) (v : Nat × Nat × Nat × Nat × Nat × Nat × Nat × Nat × Nat × Nat × Nat) (qo : Nat) (i : Nat) : x_L qb u qm v qo 25 i = u.2.2.2.2.2.1.2 := rfl
theorem xl_26 (qb : Nat) (u : x_S) (qm : Nat) (v : Nat × Nat × Nat × Nat × Nat × Nat × Nat × Nat × Nat × Nat × Nat) (qo : Nat) (i : Nat) : x_L qb u qm v qo 26 i = u.2.2.2.2.2.2 := rfl
theorem xl_30 (qb : Nat) (u : x_S) (qm : Nat) (v : Nat × Nat × Nat × Nat × Nat × Nat × Nat × Nat × Nat × Nat × Nat) (qo : Nat) (i : Nat) : x_L qb u qm v qo 30 i = qm := rfl
theorem xl_31 (qb : Nat) (u : x_S) (qm : Nat) (v : Nat × Nat × Nat × Nat × Nat × Nat × Nat × Nat × Nat × Nat × Nat) (qo : Nat) (i : Nat) : x_L qb u qm v qo 31 i = v.1 := rfl
theorem xl_32 (qb : Nat) (u : x_S) (qm : Nat) (v : Nat × Nat × Nat × Nat × Nat × Nat × Nat × Nat × Nat × Nat × Nat) (qo : Nat) (i : Nat) : x_L qb u qm v qo 32 i = v.2.1 := rfl
theorem xl_33 (qb : Nat) (u : x_S) (qm : Nat) (v : Nat × Nat × Nat × Nat × Nat × Nat × Nat × Nat × Nat × Nat × Nat) (qo : Nat) (i : Nat) : x_L qb u qm v qo 33 i = v.2.2.1 := rfl
theorem xl_34 (qb : Nat) (u : x_S) (qm : Nat) (v : Nat × Nat × Nat × Nat × Nat × Nat × Nat × Nat × Nat × Nat × Nat) (qo : Nat) (i : Nat) : x_L qb u qm v qo 34 i = v.2.2.2.1 := rfl
theorem xl_35 (qb : Nat) (u : x_S) (qm : Nat) (v : Nat × Nat × Nat × Nat × Nat × Nat × Nat × Nat × Nat × Nat × Nat) (qo : Nat) (i : Nat) : x_L qb u qm v qo 35 i = v.2.2.2.2.1 := rfl
theorem xl_36 (qb : Nat) (u : x_S) (qm : Nat) (v : Nat × Nat × Nat × Nat × Nat × Nat × Nat × Nat × Nat × Nat × Nat) (qo : Nat) (i : Nat) : x_L qb u qm v qo 36 i = v.2.2.2.2.2.1 := rfl
theorem xl_37 (qb : Nat) (u : x_S) (qm : Nat) (v : Nat × Nat × Nat × Nat × Nat × Nat × Nat × Nat × Nat × Nat × Nat) (qo : Nat) (i : Nat) : x_L qb u qm v qo 37 i = v.2.2.2.2.2.2.1 := rfl
theorem xl_38 (qb : Nat) (u : x_S) (qm : Nat) (v : Nat × Nat × Nat × Nat × Nat × Nat × Nat × Nat × Nat × Nat × Nat) (qo : Nat) (i : Nat) : x_L qb u qm v qo 38 i = v.2.2.2.2.2.2.2.1 := rfl
theorem xl_39 (qb : Nat) (u : x_S) (qm : Nat) (v : Nat × Nat × Nat × Nat × Nat × Nat × Nat × Nat × Nat × Nat × Nat) (qo : Nat) (i : Nat) : x_L qb u qm v qo 39 i = v.2.2.2.2.2.2.2.2.1 := rfl
theorem xl_40 (qb : Nat) (u : x_S) (qm : Nat) (v : Nat × Nat × Nat × Nat × Nat × Nat × Nat × Nat × Nat × Nat × Nat) (qo : Nat) (i : Nat) : x_L qb u qm v qo 40 i = v.2.2.2.2.2.2.2.2.2.1 := rfl
theorem xl_41 (qb : Nat) (u : x_S) (qm : Nat) (v : Nat × Nat × Nat × Nat × Nat × Nat × Nat × Nat × Nat × Nat × Nat) (qo : Nat) (i : Nat) : x_L qb u qm v qo 41 i = v.2.2.2.2.2.2.2.2.2.2 := rfl
theorem xl_50 (qb : Nat) (u : x_S) (qm : Nat) (v : Nat × Nat × Nat × Nat × Nat × Nat × Nat × Nat × Nat × Nat × Nat) (qo : Nat) (i : Nat) : x_L qb u qm v qo 50 i = qo := rfl
theorem xl_9 (qb : Nat) (u : x_S) (qm : Nat) (v : Nat × Nat × Nat × Nat × Nat × Nat × Nat × Nat × Nat × Nat × Nat) (qo : Nat) (i : Nat) : x_L qb u qm v qo 9 i = x_L qb u qm v qo 8 0 + 1 + i := rfl
theorem xl_13 (qb : Nat) (u : x_S) (qm : Nat) (v : Nat × Nat × Nat × Nat × Nat × Nat × Nat × Nat × Nat × Nat × Nat) (qo : Nat) : x_L qb u qm v qo 13 = u.2.1.2.2.1 := rfl
theorem xl_14 (qb : Nat) (u : x_S) (qm : Nat) (v : Nat × Nat × Nat × Nat × Nat × Nat × Nat × Nat × Nat × Nat × Nat) (qo : Nat) (i : Nat) (h : i < 16) : (x_L qb u qm v qo 14 i, x_L qb u qm v qo 15 i, x_L qb u qm v qo 14 (i + 16), x_L qb u qm v qo 15 (i + 16)) = u.2.1.2.2.2 i := by
  have e1 : x_L qb u qm v qo 14 i = (if i < 16 then (u.2.1.2.2.2 i).1 else (u.2.1.2.2.2 (i - 16)).2.2.1) := rfl
  have e2 : x_L qb u qm v qo 15 i = (if i < 16 then (u.2.1.2.2.2 i).2.1 else (u.2.1.2.2.2 (i - 16)).2.2.2) := rfl
  have e3 : x_L qb u qm v qo 14 (i + 16) = (if i + 16 < 16 then (u.2.1.2.2.2 (i + 16)).1 else (u.2.1.2.2.2 (i + 16 - 16)).2.2.1) := rfl
  have e4 : x_L qb u qm v qo 15 (i + 16) = (if i + 16 < 16 then (u.2.1.2.2.2 (i + 16)).2.1 else (u.2.1.2.2.2 (i + 16 - 16)).2.2.2) := rfl
  rw [e1, e2, e3, e4, if_pos h, if_pos h, if_neg (by omega), if_neg (by omega), Nat.add_sub_cancel]
theorem x_sames {Ar : Nat → ClassId} {qb qm qo : Nat} {u : x_S} {v : Nat × Nat × Nat × Nat × Nat × Nat × Nat × Nat × Nat × Nat × Nat} {v1 : Nat → Nat × Nat × Nat × Nat} (h : ∀ i, i < 16 → v1 i = u.2.1.2.2.2 i) : x_all Ar qb (u.1, (u.2.1.1, (u.2.1.2.1, u.2.1.2.2.1, v1)), u.2.2) qm v qo = x_all Ar qb u qm v qo := by
  have e : w_be Ar u.2.1.1 (u.2.1.2.1, u.2.1.2.2.1, v1) = w_be Ar u.2.1.1 u.2.1.2 := by
    simp only [w_be, x_bl_same (v := u.2.1.2.2.2) (v' := v1) (g := u.2.1.2.2.1) (g' := u.2.1.2.2.1) 16 (fun j hj => ⟨rfl, h j hj⟩)]
  simp only [x_all, w_b, e]
theorem x_world {Ar : Nat → ClassId} (qb : Nat) (u : x_S) (qm : Nat) (v : Nat × Nat × Nat × Nat × Nat × Nat × Nat × Nat × Nat × Nat × Nat) (qo : Nat) : x_ord.map (x_F (x_L qb u qm v qo) Ar) = x_all Ar qb u qm v qo := by
  rw [x_seg (L := x_L qb u qm v qo) (fun j => xl_9 qb u qm v qo j)]
  simp only [xl_0, xl_1, xl_2, xl_3, xl_4, xl_5, xl_6, xl_7, xl_8, xl_10, xl_11, xl_12, xl_16, xl_17, xl_18, xl_19, xl_20, xl_21, xl_22, xl_23, xl_24, xl_25, xl_26, xl_30, xl_31, xl_32, xl_33, xl_34, xl_35, xl_36, xl_37, xl_38, xl_39, xl_40, xl_41, xl_50, xl_13]
  exact x_sames (fun i hi => xl_14 qb u qm v qo i hi)

theorem xn_l_8 : x_nw "BottleReturnLaw" 8 0 12 [.null, .null, .null, .null, .null, .null, .null, .int 0, .int 0, .int 0, .int 0, .int 0] := ⟨"BottleReturn", T_b, ty_b, rfl, in_b, tk_b, (wt_in (List.mem_of_getElem? (i := 18) (by decide +kernel)) rfl), (wt_in (List.mem_of_getElem? (i := 19) (by decide +kernel)) rfl), (wt_in (List.mem_of_getElem? (i := 1) (by decide +kernel)) rfl), by decide⟩
theorem xn_l_83 : x_nw "BottleReturnLaw" 83 9 26 [.null, .null, .null, .null, .int 0, .int 0, .null, .null, .int 0, .null, .null, .null, .int 0, .int 0, .null, .int 0, .int 0, .int 0, .int 0, .int 0, .null, .int 0, .int 0, .int 0, .int 0, .int 0] := ⟨"BottleReturnModel", T_m, ty_m, rfl, in_m, tk_m, (wt_in (List.mem_of_getElem? (i := 711) (by decide +kernel)) rfl), (wt_in (List.mem_of_getElem? (i := 712) (by decide +kernel)) rfl), (wt_in (List.mem_of_getElem? (i := 10) (by decide +kernel)) rfl), by decide⟩
theorem x_toW {L : Nat → Nat → Nat} {Ar : Nat → ClassId} {D : va_G} {H : Heap} (h : va_P D vwCl (x_ord.map (x_F L Ar)) H) : f_W L Ar D f_z0 H := by
  refine j_sub h (fun x hx => ?_)
  obtain ⟨q, hq, rfl⟩ := List.mem_map.mp hx
  exact List.mem_map.mpr ⟨q, x_ord_in q hq, rfl⟩
theorem x_toL {L : Nat → Nat → Nat} {Ar : Nat → ClassId} {b0 : Nat} (h : va_D (f_A b0) (x_ord.map (x_F L Ar))) : f_L L b0 := by
  have key : ∀ q ∈ f_en, ∃ i : Nat, x_ord[i]? = some q ∧ (x_ord.map (x_F L Ar))[i]? = some (x_F L Ar q) := by
    intro q hq
    obtain ⟨i, hi⟩ := List.getElem?_of_mem (x_ord_in q hq)
    exact ⟨i, hi, by rw [List.getElem?_map, hi]; rfl⟩
  refine ⟨fun q hq r hr e => ?_, fun q hq => ?_⟩
  · obtain ⟨i, h1, h2⟩ := key q hq
    obtain ⟨j, h3, h4⟩ := key r hr
    have hij := h.1 i j _ _ h2 h4 e
    subst hij
    exact Option.some.inj (h1.symm.trans h3)
  · obtain ⟨i, -, h2⟩ := key q hq
    exact h.2 i _ h2
set_option maxHeartbeats 4000000 in
set_option maxRecDepth 20000 in
/-- from the entry, for every script of at most 4096 ints, the law comes to its end with true -/
theorem whole_start {p : Program} {e : Env} {s : State} {m : MethodId} {below : List Frame} {meth : Method} {c : Code} (l : Launch) (hl0 : l.stackTraces = false) {b L : Nat} {xs : Nat → Int32} (hL : L ≤ 4096) (C0 : lw_At p s m meth c b L xs) : W p l e room_1 s m #[Value.ref b] below meth c s.heap [] 0 0 (lw_Z below #[Value.ref b] s) (entryFrame m ([Value.ref b] : List Value).toArray 7) := by
  obtain ⟨hx, hb, hr, hml, hown, htb, hX, hbl, hlk, hgv⟩ := C0
  have hs := flat_of_before _ hgv
  have hts := wt_of htb
  have hown : s.vm.findClass "BottleReturnLaw" = some m.cls := hown
  have hRf : room_1.frames = 11 := rfl
  have hRl : room_1.locals = 404 := rfl
  have hRc : room_1.cells = 601024 := rfl
  have hRs : room_1.slots = 7293034 := rfl
  obtain ⟨D, Ar, hK⟩ := x_tables htb (va_Nc.of (hs _ (by decide +kernel)))
  have hZ0 : f_Z0 s.heap.size s s.heap := by
    refine z_Z0 (args := #[Value.ref b]) (fun w hw => ?_)
    simp only [f_zw, List.mem_cons, List.not_mem_nil, or_false] at hw
    rcases hw with rfl | rfl | rfl | rfl
    · exact hs _ (by decide +kernel)
    · exact hs _ (by decide +kernel)
    · exact (htb _ (List.mem_append_right _ (List.mem_of_getElem? (i := 347) (by decide +kernel))))
    · exact (htb _ (List.mem_append_right _ (List.mem_of_getElem? (i := 349) (by decide +kernel))))
  have hZ : f_Z s.heap.size s s.heap := ⟨hZ0, hK.2.1⟩
  have hl := lv_entry ([.ref b]) (n := 7) (Nat.le_of_ble_eq_true rfl)
  rw [lg_entry_eq]
  generalize (lg_sl ([.ref b]) ++ List.replicate (7 - (lg_sl ([.ref b])).length) Slot.unset).toArray = ls at hl ⊢
  have hl : lv_has ls 7 [(0, .ref b)] := hl
  have hA : ∀ q : Nat, s.heap.size ≤ q → f_A s.heap.size q := fun _ h => h
  have hS : va_S (f_A s.heap.size) s.heap s.heap [] := va_S.rf
  have hP : va_P D vwCl [] s.heap := fun k q h => by simp at h
  have hD : va_D (f_A s.heap.size) [] := ⟨fun i j x y h => by simp at h, fun k q h => by simp at h⟩
  refine x_new hx hb hts hown hK.1 hP hD hS hA xn_l_8 (by omega) (by omega) d_l_law_0 (fun q1 H hP hD hS => ?_)
  refine lv_dup hx hb d_l_law_3 rfl ?_
  refine x_go (ws := []) (x_runI (ws := []) (as := []) (rest := [.ref q1]) hx hb hml hown hts hK (k_b l D Ar) w_b_init (wt_in (List.mem_of_getElem? (i := 1) (by decide +kernel)) rfl) (wt_in (List.mem_of_getElem? (i := 20) (by decide +kernel)) rfl) (wt_in (List.mem_of_getElem? (i := 21) (by decide +kernel)) rfl) rfl ⟨by decide, by decide, by decide +kernel⟩ ⟨by omega, by omega⟩ hP hl.1 (Nat.le_of_ble_eq_true rfl) d_l_law_4 ⟨by omega, by omega⟩) hP hD hS hA (fun u H locs hP hD hS => ?_)
  have hP : va_P D vwCl (w_b Ar q1 u) H := hP
  have hD : va_D (f_A s.heap.size) (w_b Ar q1 u) := hD
  refine lv_astore_n (lv' := [(1, .ref q1), (0, .ref b)]) hx hb d_l_law_7 rfl hl (by decide) rfl (fun ls hl => ?_)
  refine x_new hx hb hts hown hK.1 hP hD hS hA xn_l_83 (by omega) (by omega) d_l_law_8 (fun q2 H hP hD hS => ?_)
  refine lv_dup hx hb d_l_law_11 rfl ?_
  refine x_go (ws := w_b Ar q1 u) (x_runI (ws := w_b Ar q1 u) (as := []) (rest := [.ref q2]) hx hb hml hown hts hK (k_m l D Ar) w_m_init (wt_in (List.mem_of_getElem? (i := 10) (by decide +kernel)) rfl) (wt_in (List.mem_of_getElem? (i := 713) (by decide +kernel)) rfl) (wt_in (List.mem_of_getElem? (i := 714) (by decide +kernel)) rfl) rfl ⟨by decide, by decide, by decide +kernel⟩ ⟨by omega, by omega⟩ hP hl.1 (Nat.le_of_ble_eq_true rfl) d_l_law_12 ⟨by omega, by omega⟩) hP hD hS hA (fun v H locs hP hD hS => ?_)
  refine lv_astore_n (lv' := [(2, .ref q2), (1, .ref q1), (0, .ref b)]) hx hb d_l_law_15 rfl hl (by decide) rfl (fun ls hl => ?_)
  refine lv_iconst (v := 1) hx hb d_l_law_16 (by decide) ?_
  refine x_newa (atype := .long) (ty := .long) (a0 := .inr (.inl (fun _ => 0))) (N := 1) 2 hx hb hts (wt_in (List.mem_of_getElem? (i := 968) (by decide +kernel)) rfl) rfl rfl hK.1 hP hD hS hA (x_hal _) (by decide) (by decide) (Nat.le_of_ble_eq_true rfl) (by omega) (by omega) d_l_law_17 (fun q3 H hP hD hS => ?_)
  refine lv_astore_n (lv' := [(3, .ref q3), (2, .ref q2), (1, .ref q1), (0, .ref b)]) hx hb d_l_law_19 rfl hl (by decide) rfl (fun ls hl => ?_)
  refine lv_iconst (v := 0) hx hb d_l_law_20 (by decide) ?_
  refine lv_istore (lv' := [(4, .int 0), (3, .ref q3), (2, .ref q2), (1, .ref q1), (0, .ref b)]) hx hb d_l_law_21 hl (by decide) rfl (fun ls hl => ?_)
  have hP : va_P D vwCl (x_all Ar q1 u q2 v q3) H := hP
  have hD : va_D (f_A s.heap.size) (x_all Ar q1 u q2 v q3) := hD
  rw [← x_world] at hP hD
  obtain ⟨z', hz⟩ := q_all hL xs
  exact law_loop l hl0 (x_toL hD) hx hb hr hlk hml hts hown hK.1 hZ (Nat.le_refl _) (Nat.le_refl _) hX hbl (fun h => absurd hbl (Nat.not_lt.mpr h)) z' 513 0 f_z0 hz H locs ls _ _ (x_toW hP) hS (lv_sub hl [4, 3, 2, 1, 0] rfl) (by omega) (by omega)

