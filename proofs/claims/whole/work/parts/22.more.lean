/-! System.arraycopy of a container's eight widths; a table switch's default. -/
section FM
variable {p : Program} {l : Launch} {e : Env} {R : Room} {s : State} {m : MethodId} {args : Array Value} {below : List Frame} {meth : Method} {c : Code} {H : Heap} {locs : List Loc} {cells slots : Nat} {Q : State → Prop}
variable {cc : ByteArray} {pc nL index : Nat} {ls : Array Slot} {rest : List Value} {L : Nat → Nat → Nat} {Ar : Nat → ClassId} {D : va_G} {b0 : Nat} {z : fST} {own : String}
theorem f_cell_cpL {i : Nat} {q : Nat × Nat} (hq : q ∈ f_en) (h : q ≠ (25, 0)) : f_cell L Ar (f_cpL z i) q.1 q.2 = f_cell L Ar z q.1 q.2 := by
  have hlt := f_en_lt hq
  have hne : ¬ q.1 = 25 := by
    intro h25
    apply h
    obtain ⟨k, j⟩ := q
    simp only at h25 hlt
    subst h25
    have : f_cnt 25 = 1 := rfl
    have : j = 0 := by omega
    rw [this]
  have e1 : f_gI (f_cpL z i) q.1 q.2 = f_gI z q.1 q.2 := by
    funext a
    simp [f_gI, f_cpL, hne]
  have e2 : f_fv L (f_cpL z i) q.1 q.2 = f_fv L z q.1 q.2 := by
    funext a
    simp only [f_fv]
    rw [e1]
  unfold f_cell
  rw [e1, e2]
  rfl
theorem hw_copy {i : Nat} (hx : p.tables.exec = Jvm.exec) (hb : c.code = cc) (hml : c.maxLocals = nL) (hsize : ls.size = nL) (hown : s.vm.findClass own = some m.cls) (hts : ∀ w ∈ wt, w.before args s = true) (st : Cond.methodLink own index arraycopyName ∈ wt ∧ Cond.native arraycopyName ∈ wt ∧ Cond.static arraycopyName ∈ wt ∧ Cond.initialized "java/lang/System" ∈ wt) (hK : f_K Ar D s) (hLi : f_L L b0) (hW : f_W L Ar D z H) (hS : va_S (f_A b0) s.heap H locs) (hi : 16 ≤ i) (hi2 : i < 32) (hf : 1 ≤ R.frames) (hlo : (rest.map fun v => v.category).sum + (nativeFrameWords "java/lang/System" "arraycopy" 5 + 11) ≤ R.locals) (hd : decode cc pc = .ok (.invokestatic index, 3))
    (kk : ∀ (H1 : Heap) (locs1 : List Loc), f_W L Ar D (f_cpL z i) H1 → va_S (f_A b0) s.heap H1 locs1 → W p l e R s m args below meth c H1 locs1 cells slots Q (F0 m (pc + 3) ls rest)) : W p l e R s m args below meth c H locs cells slots Q (F0 m pc ls (.int 8 :: .int 0 :: .ref (L 25 0) :: .int 0 :: .ref (L 15 i) :: rest)) := by
  obtain ⟨w1, w2, w3, w4⟩ := st
  obtain ⟨q0, hq0, hq⟩ := f_pos (L := L) (Ar := Ar) (f_en_mem (k := 15) (i := i) (by decide) hi2)
  have he := hq z
  have hln : f_al 15 i = 8 := by
    show f_ln i = 8
    unfold f_ln
    rw [if_neg (by omega)]
  simp only [f_cell, show f_ob 15 = none from rfl, show f_at 15 = 0 from rfl, hln] at he
  obtain ⟨q1, hq1, hqq⟩ := f_pos (L := L) (Ar := Ar) (f_en_mem (k := 25) (i := 0) (by decide) (by decide))
  have he1 := hqq z
  simp only [f_cell, show f_ob 25 = none from rfl, show f_at 25 = 0 from rfl, show f_al 25 0 = 8 from rfl] at he1
  refine va_copyi hx hb (hml.trans hsize.symm) hown (hts _ w1) (hts _ w2) (hts _ w3) (hts _ w4) hK hW (f_D hLi z) hS q0 q1 0 0 he he1 rfl rfl rfl (by decide) (by decide) (by decide) (by decide) (by decide) (fun j _ => rfl) hf hlo hd (fun H1 locs1 hP1 _ hS1 => kk H1 locs1 ?_ hS1)
  have e : (f_ws L Ar z).set q1 (L 25 0, .inl (Ar 0, 8, .inl (va_cpy (f_gI z 15 i) (f_gI z 25 0) (0 : Int32).toNatClampNeg (0 : Int32).toNatClampNeg (8 : Int32).toNatClampNeg))) = f_ws L Ar (f_cpL z i) := by
    refine f_set hq1 ?_ (fun q hq hne => f_cell_cpL hq hne)
    simp only [f_cell, show f_ob 25 = none from rfl, show f_at 25 = 0 from rfl, show f_al 25 0 = 8 from rfl]
    congr 4
    funext j
    have h0 : (0 : Int32).toNatClampNeg = 0 := rfl
    have h8 : (8 : Int32).toNatClampNeg = 8 := rfl
    simp only [va_cpy, f_gI, f_cpL, h0, h8]
    by_cases hj : j < 8
    · simp [hj]
    · simp [hj]
  show va_P D vwCl (f_ws L Ar (f_cpL z i)) H1
  rw [← e]
  exact hP1
/-- a number that is none of lo, lo + 1 .. lo + n - 1 -/
theorem f_out {x : Int32} {n : Nat} (hn : n < 2 ^ 31) (h : ∀ k, k < n → ¬ x = Int32.ofNat k) : x.toInt < 0 ∨ (n : Int) - 1 < x.toInt := by
  by_cases h0 : x.toInt < 0
  · exact Or.inl h0
  · right
    refine Int.lt_of_not_ge (fun hge => ?_)
    have hk : x.toInt.toNat < n := by omega
    refine h x.toInt.toNat hk ?_
    apply Int32.toInt_inj.mp
    have : (Int32.ofNat x.toInt.toNat).toInt = (x.toInt.toNat : Int) := nI_toInt (n := x.toInt.toNat) (by omega)
    rw [this]
    omega
theorem f_swd {x : Int32} {dflt : Int} {hi len tgt : Nat} {offs : Array Int} (hx : p.tables.exec = Jvm.exec) (hb : c.code = cc) (hdg : decode cc pc = .ok (.tableswitch dflt 0 (hi : Int) offs, len)) (ht : (pc : Int) + dflt = (tgt : Int)) (hall : ∀ k : Nat, k < hi + 1 → ¬ x = Int32.ofNat k ∨ offs[k]? = some dflt) (hhi : hi < 2 ^ 30)
    (kk : W p l e R s m args below meth c H locs cells slots Q (F0 m tgt ls rest)) : W p l e R s m args below meth c H locs cells slots Q (F0 m pc ls (.int x :: rest)) := by
  by_cases ho : x.toInt < 0 ∨ (hi : Int) < x.toInt
  · exact lv_tableOut hx hb hdg ho ht kk
  · have h1 : ¬ x.toInt < 0 := fun h => ho (Or.inl h)
    have h2 : ¬ (hi : Int) < x.toInt := fun h => ho (Or.inr h)
    rcases hall x.toInt.toNat (by omega) with h | h
    · exfalso
      apply h
      apply Int32.toInt_inj.mp
      have : (Int32.ofNat x.toInt.toNat).toInt = (x.toInt.toNat : Int) := nI_toInt (n := x.toInt.toNat) (by omega)
      rw [this]
      omega
    · exact lv_tableIn (off := dflt) hx hb hdg h1 h2 (by rw [Int.sub_zero]; exact h) ht kk
end FM
theorem st_copy : Cond.methodLink "BottleReturn$Latest" 28 arraycopyName ∈ wt ∧ Cond.native arraycopyName ∈ wt ∧ Cond.static arraycopyName ∈ wt ∧ Cond.initialized "java/lang/System" ∈ wt := ⟨wt_in (List.mem_of_getElem? (i := 567) (by decide +kernel)) rfl, wt_in (List.mem_of_getElem? (i := 569) (by decide +kernel)) rfl, wt_in (List.mem_of_getElem? (i := 568) (by decide +kernel)) rfl, by decide +kernel⟩
