/-! The rows of the heap, over the flat memory: fields, arrays, the belt's row, the law's out, the script. -/
def f_fl (Ts : List Cond) (own : String) (index k j : Nat) : Prop := ∃ (ci : Nat) (C : String) (T : u_T) (N : Nat), f_ob k = some ci ∧ vwCl[ci]? = some (C, T, N) ∧ f_nf k = N ∧ j < N ∧ (∀ w ∈ u_ws C T N, w ∈ Ts) ∧ (T j).1 = C ∧ Cond.fieldLink own index C (T j).2.1 (T j).2.2.1 ∈ Ts ∧ k < 51
def f_fp (Ts : List Cond) (own : String) (index k j : Nat) (ty : FieldType) : Prop := ∃ (ci : Nat) (C : String) (T : u_T) (N : Nat) (ty0 : Nat → FieldType), f_ob k = some ci ∧ vwCl[ci]? = some (C, T, N) ∧ f_nf k = N ∧ j < N ∧ (∀ w ∈ u_ws C T N, w ∈ Ts) ∧ (T j).1 = C ∧ Cond.fieldLink own index C (T j).2.1 (T j).2.2.1 ∈ Ts ∧ k < 51 ∧ (∀ a, a < N → parseFieldDescriptor (T a).2.2.1 = some (ty0 a)) ∧ (∀ a, a < N → ∀ b, b < N → a ≠ b → (T a).2.1 ≠ (T b).2.1) ∧ (T j).2.2.2 = false ∧ parseFieldDescriptor (T j).2.2.1 = some ty ∧ f_ft k j = none
theorem f_nZ {x : Int32} (h : x = 0 ∨ x = 1) : narrow .boolean (.int x) = .int x := by
  rcases h with rfl | rfl <;> decide +kernel
theorem f_fZ (x : Int32) (h : x = 0 ∨ x = 1) : fits .boolean (.int x) = true := by
  rcases h with rfl | rfl <;> decide +kernel
section HW
variable {p : Program} {l : Launch} {e : Env} {R : Room} {s : State} {m : MethodId} {args : Array Value} {below : List Frame} {meth : Method} {c : Code} {H : Heap} {locs : List Loc} {cells slots : Nat} {Q : State → Prop}
variable {cc : ByteArray} {pc : Nat} {ls : Array Slot} {rest : List Value} {L : Nat → Nat → Nat} {Ar : Nat → ClassId} {D : va_G} {b0 : Nat} {z : fST} {Ts : List Cond} {own : String}
theorem hw_get {k i j n index : Nat} {v : Value} (hx : p.tables.exec = Jvm.exec) (hb : c.code = cc) (hts : ∀ w ∈ Ts, w.before args s = true) (hown : s.vm.findClass own = some m.cls) (hK : f_K Ar D s) (hW : f_W L Ar D z H) (fl : f_fl Ts own index k j) (hcn : f_cnt k = n) (hi : i < n) (hv : f_fv L z k i j = v) (hd : decode cc pc = .ok (.getfield index, 3))
    (kk : W p l e R s m args below meth c H locs cells slots Q (F0 m (pc + 3) ls (v :: rest))) : W p l e R s m args below meth c H locs cells slots Q (F0 m pc ls (.ref (L k i) :: rest)) := by
  subst hcn
  obtain ⟨ci, C, T, N, h1, h2, h3, h4, h5, h6, h7, h8⟩ := fl
  obtain ⟨q0, -, hq⟩ := f_pos (L := L) (Ar := Ar) (f_en_mem h8 hi)
  have he := hq z
  simp only [f_cell, h1] at he
  exact va_get hx hb hts h5 hown hK hW q0 he h2 j h4 (hts _ h7) (fun x hx => by rw [h6] at hx; exact hx) (by simp [h3, h4, hv]) hd kk
theorem hw_put {k i j n index : Nat} {v : Int32} {ty : FieldType} (hx : p.tables.exec = Jvm.exec) (hb : c.code = cc) (hts : ∀ w ∈ Ts, w.before args s = true) (hown : s.vm.findClass own = some m.cls) (hK : f_K Ar D s) (hLi : f_L L b0) (hW : f_W L Ar D z H) (hS : va_S (f_A b0) s.heap H locs) (fp : f_fp Ts own index k j ty) (hn : narrow ty (.int v) = .int v) (hfit : fits ty (.int v) = true) (hcn : f_cnt k = n) (hi : i < n) (hd : decode cc pc = .ok (.putfield index, 3))
    (kk : ∀ (H1 : Heap) (locs1 : List Loc), f_W L Ar D (f_pI z k i j v) H1 → va_S (f_A b0) s.heap H1 locs1 → W p l e R s m args below meth c H1 locs1 cells slots Q (F0 m (pc + 3) ls rest)) : W p l e R s m args below meth c H locs cells slots Q (F0 m pc ls (.int v :: .ref (L k i) :: rest)) := by
  subst hcn
  obtain ⟨ci, C, T, N, ty0, h1, h2, h3, h4, h5, h6, h7, h8, h9, h10, h11, h12, h13⟩ := fp
  obtain ⟨q0, hq0, hq⟩ := f_pos (L := L) (Ar := Ar) (f_en_mem h8 hi)
  have he := hq z
  simp only [f_cell, h1] at he
  refine va_put hx hb hts h5 ty0 h9 h10 hown hK hW (f_D hLi z) hS q0 he h2 j h4 (hts _ h7) (fun x hx => by rw [h6] at hx; exact hx) h11 h12 hn hfit (by simp [h3, h4]) hd (fun H1 locs1 hP1 _ hS1 => kk H1 locs1 ?_ hS1)
  have e : (f_ws L Ar z).set q0 (L k i, .inr (ci, ((List.range (f_nf k)).map (f_fv L z k i)).set j (.int v))) = f_ws L Ar (f_pI z k i j v) := by
    refine f_set hq0 ?_ (fun q _ hne => f_cell_pI hne)
    simp only [f_cell, h1]
    congr 2
    apply List.ext_getElem?
    intro a
    by_cases ha : a = j
    · subst ha
      rw [List.getElem?_set_self (by simp [h3, h4])]
      simp [h3, h4, f_fv, h13, f_gI, f_pI]
    · rw [List.getElem?_set_ne (Ne.symm ha)]
      simp only [List.getElem?_map]
      cases hb : (List.range (f_nf k))[a]? with
      | none => rfl
      | some b =>
        have hba : b = a := by
          have := List.getElem?_eq_some_iff.mp hb
          obtain ⟨h1, h2⟩ := this
          rw [List.getElem_range] at h2
          exact h2.symm
        subst hba
        simp only [Option.map_some, f_fv, f_gI, f_pI]
        rw [if_neg (fun q => ha q.2.2)]
  rw [e] at hP1
  exact hP1
theorem hw_iald {k i n len : Nat} {x : Int32} (hx : p.tables.exec = Jvm.exec) (hb : c.code = cc) (hK : f_K Ar D s) (hW : f_W L Ar D z H) (ha : f_ob k = none ∧ f_at k = 0 ∧ k < 51) (hcn : f_cnt k = n) (hi : i < n) (hlen : f_al k i = len) (hin : f_ib x len = true) (hd : decode cc pc = .ok (.iaload, 1))
    (kk : W p l e R s m args below meth c H locs cells slots Q (F0 m (pc + 1) ls (.int (f_gI z k i (f_ix x)) :: rest))) : W p l e R s m args below meth c H locs cells slots Q (F0 m pc ls (.int x :: .ref (L k i) :: rest)) := by
  subst hcn
  obtain ⟨q0, -, hq⟩ := f_pos (L := L) (Ar := Ar) (f_en_mem ha.2.2 hi)
  have he := hq z
  simp only [f_cell, ha.1, ha.2.1, hlen] at he
  exact va_iald hx hb hK hW q0 0 he rfl (f_ib_in hin) hd kk
theorem hw_zald {k i n len : Nat} {x : Int32} (hx : p.tables.exec = Jvm.exec) (hb : c.code = cc) (hK : f_K Ar D s) (hW : f_W L Ar D z H) (ha : f_ob k = none ∧ f_at k = 1 ∧ k < 51) (hcn : f_cnt k = n) (hi : i < n) (hlen : f_al k i = len) (hin : f_ib x len = true) (hd : decode cc pc = .ok (.baload, 1))
    (kk : W p l e R s m args below meth c H locs cells slots Q (F0 m (pc + 1) ls (.int (f_gI z k i (f_ix x)) :: rest))) : W p l e R s m args below meth c H locs cells slots Q (F0 m pc ls (.int x :: .ref (L k i) :: rest)) := by
  subst hcn
  obtain ⟨q0, -, hq⟩ := f_pos (L := L) (Ar := Ar) (f_en_mem ha.2.2 hi)
  have he := hq z
  simp only [f_cell, ha.1, ha.2.1, hlen] at he
  exact va_zald hx hb hK hW q0 1 he rfl (f_ib_in hin) hd kk
theorem f_updI {k i j : Nat} {v : Int32} : upd (f_gI z k i) j v = f_gI (f_pI z k i j v) k i := by
  funext a
  simp [upd, f_gI, f_pI]
theorem hw_iast {k i n len : Nat} {x v : Int32} (hx : p.tables.exec = Jvm.exec) (hb : c.code = cc) (hK : f_K Ar D s) (hLi : f_L L b0) (hW : f_W L Ar D z H) (hS : va_S (f_A b0) s.heap H locs) (ha : f_ob k = none ∧ f_at k = 0 ∧ k < 51) (hcn : f_cnt k = n) (hi : i < n) (hlen : f_al k i = len) (hin : f_ib x len = true) (hd : decode cc pc = .ok (.iastore, 1))
    (kk : ∀ (H1 : Heap) (locs1 : List Loc), f_W L Ar D (f_pI z k i (f_ix x) v) H1 → va_S (f_A b0) s.heap H1 locs1 → W p l e R s m args below meth c H1 locs1 cells slots Q (F0 m (pc + 1) ls rest)) : W p l e R s m args below meth c H locs cells slots Q (F0 m pc ls (.int v :: .int x :: .ref (L k i) :: rest)) := by
  subst hcn
  obtain ⟨q0, hq0, hq⟩ := f_pos (L := L) (Ar := Ar) (f_en_mem ha.2.2 hi)
  have he := hq z
  simp only [f_cell, ha.1, ha.2.1, hlen] at he
  refine va_iast hx hb hK hW (f_D hLi z) hS q0 0 he rfl (f_ib_in hin) hd (fun H1 locs1 hP1 _ hS1 => kk H1 locs1 ?_ hS1)
  have e : (f_ws L Ar z).set q0 (L k i, .inl (Ar 0, len, .inl (upd (f_gI z k i) (f_ix x) v))) = f_ws L Ar (f_pI z k i (f_ix x) v) := by
    refine f_set hq0 ?_ (fun q _ hne => f_cell_pI hne)
    simp only [f_cell, ha.1, ha.2.1, hlen]
    rw [f_updI]
  show va_P D vwCl (f_ws L Ar (f_pI z k i (f_ix x) v)) H1
  rw [← e]
  exact hP1
theorem hw_zast {k i n len : Nat} {x v : Int32} (hx : p.tables.exec = Jvm.exec) (hb : c.code = cc) (hK : f_K Ar D s) (hLi : f_L L b0) (hW : f_W L Ar D z H) (hS : va_S (f_A b0) s.heap H locs) (ha : f_ob k = none ∧ f_at k = 1 ∧ k < 51) (hcn : f_cnt k = n) (hi : i < n) (hlen : f_al k i = len) (hin : f_ib x len = true) (hv : v = 0 ∨ v = 1) (hd : decode cc pc = .ok (.bastore, 1))
    (kk : ∀ (H1 : Heap) (locs1 : List Loc), f_W L Ar D (f_pI z k i (f_ix x) v) H1 → va_S (f_A b0) s.heap H1 locs1 → W p l e R s m args below meth c H1 locs1 cells slots Q (F0 m (pc + 1) ls rest)) : W p l e R s m args below meth c H locs cells slots Q (F0 m pc ls (.int v :: .int x :: .ref (L k i) :: rest)) := by
  subst hcn
  obtain ⟨q0, hq0, hq⟩ := f_pos (L := L) (Ar := Ar) (f_en_mem ha.2.2 hi)
  have he := hq z
  simp only [f_cell, ha.1, ha.2.1, hlen] at he
  have hvn : vp_nar .boolean v = v := by
    unfold vp_nar
    rw [f_nZ hv]
  refine va_zast hx hb hK hW (f_D hLi z) hS q0 1 he rfl (f_ib_in hin) hd (fun H1 locs1 hP1 _ hS1 => kk H1 locs1 ?_ hS1)
  rw [hvn] at hP1
  have e : (f_ws L Ar z).set q0 (L k i, .inl (Ar 1, len, .inl (upd (f_gI z k i) (f_ix x) v))) = f_ws L Ar (f_pI z k i (f_ix x) v) := by
    refine f_set hq0 ?_ (fun q _ hne => f_cell_pI hne)
    simp only [f_cell, ha.1, ha.2.1, hlen]
    rw [f_updI]
  show va_P D vwCl (f_ws L Ar (f_pI z k i (f_ix x) v)) H1
  rw [← e]
  exact hP1
end HW
section HW2
variable {p : Program} {l : Launch} {e : Env} {R : Room} {s : State} {m : MethodId} {args : Array Value} {below : List Frame} {meth : Method} {c : Code} {H : Heap} {locs : List Loc} {cells slots : Nat} {Q : State → Prop}
variable {cc : ByteArray} {pc : Nat} {ls : Array Slot} {rest : List Value} {L : Nat → Nat → Nat} {Ar : Nat → ClassId} {D : va_G} {b0 : Nat} {z : fST} {Ts : List Cond} {own : String}
theorem hw_alen {k i n len : Nat} (hx : p.tables.exec = Jvm.exec) (hb : c.code = cc) (hK : f_K Ar D s) (hW : f_W L Ar D z H) (ha : f_ob k = none ∧ f_at k = 0 ∧ k < 51) (hcn : f_cnt k = n) (hi : i < n) (hlen : f_al k i = len) (hd : decode cc pc = .ok (.arraylength, 1))
    (kk : W p l e R s m args below meth c H locs cells slots Q (F0 m (pc + 1) ls (.int (nI len) :: rest))) : W p l e R s m args below meth c H locs cells slots Q (F0 m pc ls (.ref (L k i) :: rest)) := by
  subst hcn
  obtain ⟨q0, -, hq⟩ := f_pos (L := L) (Ar := Ar) (f_en_mem ha.2.2 hi)
  have he := hq z
  simp only [f_cell, ha.1, ha.2.1, hlen] at he
  exact va_alen hx hb hK hW q0 0 he rfl rfl hd kk
theorem hw_rlen (hx : p.tables.exec = Jvm.exec) (hb : c.code = cc) (hK : f_K Ar D s) (hW : f_W L Ar D z H) (hd : decode cc pc = .ok (.arraylength, 1))
    (kk : W p l e R s m args below meth c H locs cells slots Q (F0 m (pc + 1) ls (.int (nI 16) :: rest))) : W p l e R s m args below meth c H locs cells slots Q (F0 m pc ls (.ref (L 12 0) :: rest)) := by
  obtain ⟨q0, -, hq⟩ := f_pos (L := L) (Ar := Ar) (f_en_mem (k := 12) (i := 0) (by decide) (by decide))
  have he := hq z
  simp only [f_cell, show f_ob 12 = none from rfl, show f_at 12 = 3 from rfl] at he
  exact va_alen hx hb hK hW q0 3 he rfl rfl hd kk
theorem hw_rald {x : Int32} (hx : p.tables.exec = Jvm.exec) (hb : c.code = cc) (hK : f_K Ar D s) (hW : f_W L Ar D z H) (hin : f_ib x 16 = true) (hd : decode cc pc = .ok (.aaload, 1))
    (kk : W p l e R s m args below meth c H locs cells slots Q (F0 m (pc + 1) ls (.ref (L 13 (f_gR z (f_ix x))) :: rest))) : W p l e R s m args below meth c H locs cells slots Q (F0 m pc ls (.int x :: .ref (L 12 0) :: rest)) := by
  obtain ⟨q0, -, hq⟩ := f_pos (L := L) (Ar := Ar) (f_en_mem (k := 12) (i := 0) (by decide) (by decide))
  have he := hq z
  simp only [f_cell, show f_ob 12 = none from rfl, show f_at 12 = 3 from rfl] at he
  exact va_aldq hx hb hK hW q0 3 he rfl (f_ib_in hin) hd kk
theorem hw_wald {x : Int32} (hx : p.tables.exec = Jvm.exec) (hb : c.code = cc) (hK : f_K Ar D s) (hW : f_W L Ar D z H) (hin : f_ib x 8 = true) (hd : decode cc pc = .ok (.aaload, 1))
    (kk : W p l e R s m args below meth c H locs cells slots Q (F0 m (pc + 1) ls (.ref (L 9 (f_ix x)) :: rest))) : W p l e R s m args below meth c H locs cells slots Q (F0 m pc ls (.int x :: .ref (L 8 0) :: rest)) := by
  obtain ⟨q0, -, hq⟩ := f_pos (L := L) (Ar := Ar) (f_en_mem (k := 8) (i := 0) (by decide) (by decide))
  have he := hq z
  simp only [f_cell, show f_ob 8 = none from rfl, show f_at 8 = 4 from rfl] at he
  have hlt : x.toNatClampNeg < 8 := f_ib_lt hin
  have hK2 := (hK.2 4 (Ar 4, .array .int) rfl).1
  exact W.aald (v := .ref (L 9 (f_ix x))) (ty := .array .int) hx hb (hW q0 _ he) (hK2 8 (fun j => va_rf (some (L 9 j)))) rfl (fun q => by cases q) (by show ¬ (x < 0 ∨ (arrV _ _ _).slots.size ≤ _); rw [arrV_size]; exact f_ib_in hin) (by show (arrV _ _ _).slots[_]? = _; rw [arrV_read _ _ hlt]; rfl) rfl rfl hd kk
theorem f_cell_pR {a n : Nat} {q : Nat × Nat} (hq : q ∈ f_en) (h : q ≠ (12, 0)) : f_cell L Ar (f_pR z a n) q.1 q.2 = f_cell L Ar z q.1 q.2 := by
  have hlt := f_en_lt hq
  have e1 : f_gI (f_pR z a n) = f_gI z := rfl
  have e2 : f_gO (f_pR z a n) = f_gO z := rfl
  have e3 : f_fv L (f_pR z a n) = f_fv L z := rfl
  unfold f_cell
  rw [e1, e2, e3]
  cases ho : f_ob q.1 with
  | some ci => rfl
  | none =>
    by_cases h12 : q.1 = 12
    · exfalso
      apply h
      obtain ⟨k, i⟩ := q
      simp only at h12 hlt
      subst h12
      have : i = 0 := by
        have : f_cnt 12 = 1 := rfl
        omega
      rw [this]
    · have h3 : f_at q.1 ≠ 3 := by
        intro h3
        unfold f_at at h3
        split at h3
        · exact h12 (by assumption)
        · split at h3 <;> (try split at h3) <;> (try split at h3) <;> simp at h3
      match hm : f_at q.1 with
      | 0 => rfl
      | 1 => rfl
      | 2 => rfl
      | 3 => exact absurd hm h3
      | n + 4 => rfl
theorem hw_rast {x : Int32} {i : Nat} (hx : p.tables.exec = Jvm.exec) (hb : c.code = cc) (hK : f_K Ar D s) (hLi : f_L L b0) (hW : f_W L Ar D z H) (hS : va_S (f_A b0) s.heap H locs) (hi : i < 16) (hin : f_ib x 16 = true) (hd : decode cc pc = .ok (.aastore, 1))
    (kk : ∀ (H1 : Heap) (locs1 : List Loc), f_W L Ar D (f_pR z (f_ix x) i) H1 → va_S (f_A b0) s.heap H1 locs1 → W p l e R s m args below meth c H1 locs1 cells slots Q (F0 m (pc + 1) ls rest)) : W p l e R s m args below meth c H locs cells slots Q (F0 m pc ls (.ref (L 13 i) :: .int x :: .ref (L 12 0) :: rest)) := by
  obtain ⟨q0, hq0, hq⟩ := f_pos (L := L) (Ar := Ar) (f_en_mem (k := 12) (i := 0) (by decide) (by decide))
  have he := hq z
  simp only [f_cell, show f_ob 12 = none from rfl, show f_at 12 = 3 from rfl] at he
  obtain ⟨qk, -, hqk⟩ := f_pos (L := L) (Ar := Ar) (f_en_mem (k := 13) (i := i) (by decide) hi)
  have hek := hqk z
  simp only [f_cell, show f_ob 13 = some 3 from rfl] at hek
  refine va_astq hx hb hK hW (f_D hLi z) hS q0 3 qk 3 (r := ("BottleReturn$Container", T_co, 9)) he rfl hek rfl (f_ib_in hin) hd (fun H1 locs1 hP1 _ hS1 => kk H1 locs1 ?_ hS1)
  have e : (f_ws L Ar z).set q0 (L 12 0, .inl (Ar 3, 16, .inr (.inr (.inr (.inr (va_up (fun j => some (L 13 (f_gR z j))) (f_ix x) (some (L 13 i)))))))) = f_ws L Ar (f_pR z (f_ix x) i) := by
    refine f_set hq0 ?_ (fun q hq hne => f_cell_pR hq hne)
    simp only [f_cell, show f_ob 12 = none from rfl, show f_at 12 = 3 from rfl]
    congr 7
    funext j
    simp only [va_up, f_gR, f_pR]
    split <;> rfl
  show va_P D vwCl (f_ws L Ar (f_pR z (f_ix x) i)) H1
  rw [← e]
  exact hP1
theorem f_cell_pO {v : Int64} {q : Nat × Nat} (hq : q ∈ f_en) (h : q ≠ (50, 0)) : f_cell L Ar (f_pO z v) q.1 q.2 = f_cell L Ar z q.1 q.2 := by
  have hlt := f_en_lt hq
  have e1 : f_gI (f_pO z v) = f_gI z := rfl
  have e2 : f_gR (f_pO z v) = f_gR z := rfl
  have e3 : f_fv L (f_pO z v) = f_fv L z := rfl
  unfold f_cell
  rw [e1, e2, e3]
  cases ho : f_ob q.1 with
  | some ci => rfl
  | none =>
    by_cases h12 : q.1 = 50
    · exfalso
      apply h
      obtain ⟨k, i⟩ := q
      simp only at h12 hlt
      subst h12
      have : i = 0 := by
        have : f_cnt 50 = 1 := rfl
        omega
      rw [this]
    · have h3 : f_at q.1 ≠ 2 := by
        intro h3
        unfold f_at at h3
        split at h3
        · simp at h3
        · split at h3
          · simp at h3
          · split at h3 <;> simp at h3
      match hm : f_at q.1 with
      | 0 => rfl
      | 1 => rfl
      | 2 => exact absurd hm h3
      | 3 => rfl
      | n + 4 => rfl
theorem hw_lald (hx : p.tables.exec = Jvm.exec) (hb : c.code = cc) (hK : f_K Ar D s) (hW : f_W L Ar D z H) (hd : decode cc pc = .ok (.laload, 1))
    (kk : W p l e R s m args below meth c H locs cells slots Q (F0 m (pc + 1) ls (.long (f_gO z) :: rest))) : W p l e R s m args below meth c H locs cells slots Q (F0 m pc ls (.int 0 :: .ref (L 50 0) :: rest)) := by
  obtain ⟨q0, -, hq⟩ := f_pos (L := L) (Ar := Ar) (f_en_mem (k := 50) (i := 0) (by decide) (by decide))
  have he := hq z
  simp only [f_cell, show f_ob 50 = none from rfl, show f_at 50 = 2 from rfl] at he
  exact va_lald hx hb hK hW q0 2 he rfl (f_ib_in (show f_ib 0 1 = true by decide)) hd kk
theorem hw_last {v : Int64} (hx : p.tables.exec = Jvm.exec) (hb : c.code = cc) (hK : f_K Ar D s) (hLi : f_L L b0) (hW : f_W L Ar D z H) (hS : va_S (f_A b0) s.heap H locs) (hd : decode cc pc = .ok (.lastore, 1))
    (kk : ∀ (H1 : Heap) (locs1 : List Loc), f_W L Ar D (f_pO z v) H1 → va_S (f_A b0) s.heap H1 locs1 → W p l e R s m args below meth c H1 locs1 cells slots Q (F0 m (pc + 1) ls rest)) : W p l e R s m args below meth c H locs cells slots Q (F0 m pc ls (.long v :: .int 0 :: .ref (L 50 0) :: rest)) := by
  obtain ⟨q0, hq0, hq⟩ := f_pos (L := L) (Ar := Ar) (f_en_mem (k := 50) (i := 0) (by decide) (by decide))
  have he := hq z
  simp only [f_cell, show f_ob 50 = none from rfl, show f_at 50 = 2 from rfl] at he
  refine va_last hx hb hK hW (f_D hLi z) hS q0 2 he rfl (f_ib_in (show f_ib 0 1 = true by decide)) hd (fun H1 locs1 hP1 hD1 hS1 => kk H1 locs1 ?_ hS1)
  obtain ⟨hE1, hE2⟩ : True ∧ True := ⟨trivial, trivial⟩
  have hset := f_set (L := L) (Ar := Ar) (z := z) (z' := f_pO z v) hq0 rfl (fun q hq hne => f_cell_pO hq hne)
  intro k q hk
  by_cases h0 : k = q0
  · subst h0
    have hlt : k < (f_ws L Ar z).length := (List.getElem?_eq_some_iff.mp he).1
    have h1 := hP1 k _ (List.getElem?_set_self hlt)
    rw [← hset, List.getElem?_set_self hlt] at hk
    cases hk
    have h1' : H1[L 50 0]? = some (vp_cell (Ar 2) (1, .inr (.inl (vp_updL (fun _ => f_gO z) (0 : Int32).toNatClampNeg v)))) := h1
    show H1[L 50 0]? = some (vp_cell (Ar 2) (1, .inr (.inl (fun _ => f_gO (f_pO z v)))))
    rw [h1', vp_cell_l, vp_cell_l]
    congr 1
  · rw [← hset, List.getElem?_set_ne (Ne.symm h0)] at hk
    exact hP1 k q (by rw [List.getElem?_set_ne (Ne.symm h0)]; exact hk)
end HW2
