/-! contracts: the method does what its pure function says -/
set_option maxRecDepth 100000 in
set_option maxHeartbeats 4000000 in
theorem c_m_thrown_ok (l : Launch) (hl0 : l.stackTraces = false) {L : Nat → Nat → Nat} {Ar : Nat → ClassId} {D : va_G} {b0 : Nat} (hLi : f_L L b0)   (z : fST) (r : Int32) (z' : fST) (hF : F_m_thrown  z = some (r, z')) : f_C l y_m_thrown wt 1 0 L Ar D b0 [.ref (L 30 0)] z (.inl (some (.int r))) z' := by
  refine f_ofW (cc := c_m_thrown) (maxL := 1) (ret := (some FieldType.int)) (by decide) w_m_thrown (Nat.le_of_ble_eq_true rfl) ?_
  intro p e s m args below meth c R hRf hRl hRc hRs hx hb hr hlk hml hno hts hown hK hZ hsz
  intro H locs ls cells slots hW hS hl hc hs
  have hl : lv_has ls 1 [(0, .ref (L 30 0))] := hl
  unfold F_m_thrown at hF
  refine lv_aload_n hx hb d_m_thrown_0 rfl (lv_at hl 0 rfl) ?_
  refine hw_get (k := 30) (i := 0) (n := 1) (j := 25) (v := .int (f_gI z 30 0 25)) hx hb hts hown hK hW fl_m_44 rfl (by omega) rfl d_m_thrown_1 ?_
  exact hw_iret hx hb hr hlk (vp_nar_int _) hW hS (by omega) (by omega) d_m_thrown_4 hF
set_option maxRecDepth 100000 in
set_option maxHeartbeats 4000000 in
theorem c_m_fails_ok (l : Launch) (hl0 : l.stackTraces = false) {L : Nat → Nat → Nat} {Ar : Nat → ClassId} {D : va_G} {b0 : Nat} (hLi : f_L L b0) (a1 : Int32) (a2 : Int32)  (z : fST) (r : Int32) (z' : fST) (hF : F_m_fails a1 a2 z = some (r, z')) : f_C l y_m_fails wt 1 0 L Ar D b0 [.ref (L 30 0), .int a1, .int a2] z (.inl (some (.int r))) z' := by
  refine f_ofW (cc := c_m_fails) (maxL := 3) (ret := (some FieldType.boolean)) (by decide) w_m_fails (Nat.le_of_ble_eq_true rfl) ?_
  intro p e s m args below meth c R hRf hRl hRc hRs hx hb hr hlk hml hno hts hown hK hZ hsz
  intro H locs ls cells slots hW hS hl hc hs
  have hl : lv_has ls 3 [(0, .ref (L 30 0)), (1, .int a1), (2, .int a2)] := hl
  unfold F_m_fails at hF
  refine lv_aload_n hx hb d_m_fails_0 rfl (lv_at hl 0 rfl) ?_
  refine lv_iload_n hx hb d_m_fails_1 rfl (lv_at hl 1 rfl) ?_
  refine lv_if_eq (tgt := 9) hx hb d_m_fails_2 (by decide) (fun h1 => ?_) (fun h1 => ?_)
  · replace hF := (if_pos h1).symm.trans hF
    refine lv_iconst (v := 0) hx hb d_m_fails_9 (by decide) ?_
    refine hw_put (k := 30) (i := 0) (n := 1) (j := 25) (v := 0) hx hb hts hown hK hLi hW hS fp_m_44 (vp_nar_int _) rfl rfl (by omega) d_m_fails_10 (fun H locs hW hS => ?_)
    refine lv_iload_n hx hb d_m_fails_13 rfl (lv_at hl 1 rfl) ?_
    obtain ⟨g2, hF⟩ := f_gd_some hF
    exact hw_iret hx hb hr hlk (f_nZ (f_bz_or g2)) hW hS (by omega) (by omega) d_m_fails_14 hF
  · replace hF := (if_neg h1).symm.trans hF
    refine lv_iload_n hx hb d_m_fails_5 rfl (lv_at hl 2 rfl) ?_
    refine lv_goto (tgt := 10) hx hb d_m_fails_6 (by decide) ?_
    refine hw_put (k := 30) (i := 0) (n := 1) (j := 25) (v := a2) hx hb hts hown hK hLi hW hS fp_m_44 (vp_nar_int _) rfl rfl (by omega) d_m_fails_10 (fun H locs hW hS => ?_)
    refine lv_iload_n hx hb d_m_fails_13 rfl (lv_at hl 1 rfl) ?_
    obtain ⟨g3, hF⟩ := f_gd_some hF
    exact hw_iret hx hb hr hlk (f_nZ (f_bz_or g3)) hW hS (by omega) (by omega) d_m_fails_14 hF
set_option maxRecDepth 100000 in
set_option maxHeartbeats 4000000 in
theorem c_m_within_ok (l : Launch) (hl0 : l.stackTraces = false) {L : Nat → Nat → Nat} {Ar : Nat → ClassId} {D : va_G} {b0 : Nat} (hLi : f_L L b0) (a0 : Int32) (a1 : Int32) (a2 : Int32)  (z : fST) (r : Int32) (z' : fST) (hF : F_m_within a0 a1 a2 z = some (r, z')) : f_C l y_m_within wt 1 0 L Ar D b0 [.int a0, .int a1, .int a2] z (.inl (some (.int r))) z' := by
  refine f_ofW (cc := c_m_within) (maxL := 3) (ret := (some FieldType.boolean)) (by decide) w_m_within (Nat.le_of_ble_eq_true rfl) ?_
  intro p e s m args below meth c R hRf hRl hRc hRs hx hb hr hlk hml hno hts hown hK hZ hsz
  intro H locs ls cells slots hW hS hl hc hs
  have hl : lv_has ls 3 [(0, .int a0), (1, .int a1), (2, .int a2)] := hl
  unfold F_m_within at hF
  refine lv_iload_n hx hb d_m_within_0 rfl (lv_at hl 0 rfl) ?_
  refine lv_iload_n hx hb d_m_within_1 rfl (lv_at hl 1 rfl) ?_
  refine lv_icmp_lt (tgt := 14) hx hb d_m_within_2 (by decide) (fun h1 => ?_) (fun h1 => ?_)
  · replace hF := (if_pos h1).symm.trans hF
    refine lv_iconst (v := 0) hx hb d_m_within_14 (by decide) ?_
    exact hw_iret hx hb hr hlk (f_nZ (Or.inl rfl)) hW hS (by omega) (by omega) d_m_within_15 hF
  · replace hF := (if_neg h1).symm.trans hF
    refine lv_iload_n hx hb d_m_within_5 rfl (lv_at hl 0 rfl) ?_
    refine lv_iload_n hx hb d_m_within_6 rfl (lv_at hl 2 rfl) ?_
    refine lv_icmp_gt (tgt := 14) hx hb d_m_within_7 (by decide) (fun h2 => ?_) (fun h2 => ?_)
    · replace hF := (if_pos h2).symm.trans hF
      refine lv_iconst (v := 0) hx hb d_m_within_14 (by decide) ?_
      exact hw_iret hx hb hr hlk (f_nZ (Or.inl rfl)) hW hS (by omega) (by omega) d_m_within_15 hF
    · replace hF := (if_neg h2).symm.trans hF
      refine lv_iconst (v := 1) hx hb d_m_within_10 (by decide) ?_
      refine lv_goto (tgt := 15) hx hb d_m_within_11 (by decide) ?_
      exact hw_iret hx hb hr hlk (f_nZ (Or.inr rfl)) hW hS (by omega) (by omega) d_m_within_15 hF
set_option maxRecDepth 100000 in
set_option maxHeartbeats 4000000 in
theorem c_m_get_ok (l : Launch) (hl0 : l.stackTraces = false) {L : Nat → Nat → Nat} {Ar : Nat → ClassId} {D : va_G} {b0 : Nat} (hLi : f_L L b0) (a1 : Int32) (a2 : Int32)  (z : fST) (r : Int32) (z' : fST) (hF : F_m_get a1 a2 z = some (r, z')) : f_C l y_m_get wt 1 0 L Ar D b0 [.ref (L 30 0), .int a1, .int a2] z (.inl (some (.int r))) z' := by
  refine f_ofW (cc := c_m_get) (maxL := 3) (ret := (some FieldType.int)) (by decide) w_m_get (Nat.le_of_ble_eq_true rfl) ?_
  intro p e s m args below meth c R hRf hRl hRc hRs hx hb hr hlk hml hno hts hown hK hZ hsz
  intro H locs ls cells slots hW hS hl hc hs
  have hl : lv_has ls 3 [(0, .ref (L 30 0)), (1, .int a1), (2, .int a2)] := hl
  unfold F_m_get at hF
  refine lv_aload_n hx hb d_m_get_0 rfl (lv_at hl 0 rfl) ?_
  refine hw_get (k := 30) (i := 0) (n := 1) (j := 3) (v := .ref (L 34 0)) hx hb hts hown hK hW fl_m_19 rfl (by omega) rfl d_m_get_1 ?_
  refine lv_bipush (v := 20) hx hb d_m_get_4 (by decide) ?_
  refine lv_iload_n hx hb d_m_get_6 rfl (lv_at hl 1 rfl) ?_
  refine lv_imul hx hb d_m_get_7 ?_
  refine lv_iload_n hx hb d_m_get_8 rfl (lv_at hl 2 rfl) ?_
  refine lv_iadd hx hb d_m_get_9 ?_
  obtain ⟨g1, hF⟩ := f_gd_some hF
  refine hw_iald (k := 34) (i := 0) (n := 1) hx hb hK hW (by decide) rfl (by omega) rfl g1 d_m_get_10 ?_
  exact hw_iret hx hb hr hlk (vp_nar_int _) hW hS (by omega) (by omega) d_m_get_11 hF
set_option maxRecDepth 100000 in
set_option maxHeartbeats 4000000 in
theorem c_m_put_ok (l : Launch) (hl0 : l.stackTraces = false) {L : Nat → Nat → Nat} {Ar : Nat → ClassId} {D : va_G} {b0 : Nat} (hLi : f_L L b0) (a1 : Int32) (a2 : Int32) (a3 : Int32)  (z : fST) (r : Unit) (z' : fST) (hF : F_m_put a1 a2 a3 z = some (r, z')) : f_C l y_m_put wt 1 0 L Ar D b0 [.ref (L 30 0), .int a1, .int a2, .int a3] z (.inl none) z' := by
  refine f_ofW (cc := c_m_put) (maxL := 4) (ret := (Option.none : Option Jvm.ClassFile.FieldType)) (by decide) w_m_put (Nat.le_of_ble_eq_true rfl) ?_
  intro p e s m args below meth c R hRf hRl hRc hRs hx hb hr hlk hml hno hts hown hK hZ hsz
  intro H locs ls cells slots hW hS hl hc hs
  have hl : lv_has ls 4 [(0, .ref (L 30 0)), (1, .int a1), (2, .int a2), (3, .int a3)] := hl
  unfold F_m_put at hF
  refine lv_aload_n hx hb d_m_put_0 rfl (lv_at hl 0 rfl) ?_
  refine hw_get (k := 30) (i := 0) (n := 1) (j := 3) (v := .ref (L 34 0)) hx hb hts hown hK hW fl_m_19 rfl (by omega) rfl d_m_put_1 ?_
  refine lv_bipush (v := 20) hx hb d_m_put_4 (by decide) ?_
  refine lv_iload_n hx hb d_m_put_6 rfl (lv_at hl 1 rfl) ?_
  refine lv_imul hx hb d_m_put_7 ?_
  refine lv_iload_n hx hb d_m_put_8 rfl (lv_at hl 2 rfl) ?_
  refine lv_iadd hx hb d_m_put_9 ?_
  refine lv_iload_n hx hb d_m_put_10 rfl (lv_at hl 3 rfl) ?_
  obtain ⟨g1, hF⟩ := f_gd_some hF
  refine hw_iast (k := 34) (i := 0) (n := 1) hx hb hK hLi hW hS (by decide) rfl (by omega) rfl g1 d_m_put_11 (fun H locs hW hS => ?_)
  exact hw_vret hx hb hr hlk hW hS (by omega) (by omega) d_m_put_12 hF
set_option maxRecDepth 100000 in
set_option maxHeartbeats 4000000 in
theorem c_m_rear_ok (l : Launch) (hl0 : l.stackTraces = false) {L : Nat → Nat → Nat} {Ar : Nat → ClassId} {D : va_G} {b0 : Nat} (hLi : f_L L b0) (a1 : Int32)  (z : fST) (r : Int32) (z' : fST) (hF : F_m_rear a1 z = some (r, z')) : f_C l y_m_rear wt 2 0 L Ar D b0 [.ref (L 30 0), .int a1] z (.inl (some (.int r))) z' := by
  refine f_ofW (cc := c_m_rear) (maxL := 2) (ret := (some FieldType.int)) (by decide) w_m_rear (Nat.le_of_ble_eq_true rfl) ?_
  intro p e s m args below meth c R hRf hRl hRc hRs hx hb hr hlk hml hno hts hown hK hZ hsz
  intro H locs ls cells slots hW hS hl hc hs
  have hl : lv_has ls 2 [(0, .ref (L 30 0)), (1, .int a1)] := hl
  unfold F_m_rear at hF
  refine lv_aload_n hx hb d_m_rear_0 rfl (lv_at hl 0 rfl) ?_
  refine lv_iload_n hx hb d_m_rear_1 rfl (lv_at hl 1 rfl) ?_
  refine lv_iconst (v := 2) hx hb d_m_rear_2 (by decide) ?_
  obtain ⟨v1, z1, hc1, hF⟩ := f_bd_some hF
  refine hw_VR (k := 30) (i := 0) (nk := 1) (As := [.int a1, .int 2]) (rest := []) hx hb hml hown hts (c_m_get_ok l hl0 hLi a1 2  _ _ _ hc1) st_m_48 (by decide) rfl (by omega) rfl rfl hK hZ hsz hS hW rfl hl.1 (Nat.le_of_ble_eq_true rfl) d_m_rear_3 (by omega) (by omega) (by omega) (by omega) (fun H locs hW hS => ?_)
  refine lv_aload_n hx hb d_m_rear_6 rfl (lv_at hl 0 rfl) ?_
  refine lv_iload_n hx hb d_m_rear_7 rfl (lv_at hl 1 rfl) ?_
  refine lv_iconst (v := 1) hx hb d_m_rear_8 (by decide) ?_
  obtain ⟨v2, z2, hc2, hF⟩ := f_bd_some hF
  refine hw_VR (k := 30) (i := 0) (nk := 1) (As := [.int a1, .int 1]) (rest := [.int v1]) hx hb hml hown hts (c_m_get_ok l hl0 hLi a1 1  _ _ _ hc2) st_m_48 (by decide) rfl (by omega) rfl rfl hK hZ hsz hS hW rfl hl.1 (Nat.le_of_ble_eq_true rfl) d_m_rear_9 (by omega) (by omega) (by omega) (by omega) (fun H locs hW hS => ?_)
  refine lv_isub hx hb d_m_rear_12 ?_
  exact hw_iret hx hb hr hlk (vp_nar_int _) hW hS (by omega) (by omega) d_m_rear_13 hF
set_option maxRecDepth 100000 in
set_option maxHeartbeats 4000000 in
theorem c_m_remove_ok (l : Launch) (hl0 : l.stackTraces = false) {L : Nat → Nat → Nat} {Ar : Nat → ClassId} {D : va_G} {b0 : Nat} (hLi : f_L L b0) (a1 : Int32)  (z : fST) (r : Unit) (z' : fST) (hF : F_m_remove a1 z = some (r, z')) : f_C l y_m_remove wt 1 0 L Ar D b0 [.ref (L 30 0), .int a1] z (.inl none) z' := by
  refine f_ofW (cc := c_m_remove) (maxL := 3) (ret := (Option.none : Option Jvm.ClassFile.FieldType)) (by decide) w_m_remove (Nat.le_of_ble_eq_true rfl) ?_
  intro p e s m args below meth c R hRf hRl hRc hRs hx hb hr hlk hml hno hts hown hK hZ hsz
  have B15 : ∀  (n : Nat) (x2 : Int32) (z : fST), f_it (b_m_remove_15 ) n (x2, z) = some (r, z') →  f_B p l e R s m args below meth c L Ar D b0 3 0 (f_E below args s L Ar D b0 0 (.inl none) z') 0 15 [(0, .ref (L 30 0)), (2, .int x2)] [] z := by
    intro  n
    induction n with
    | zero => intro x2 z hF; cases hF
    | succ n ih =>
    intro x2 z hF  H locs ls cells slots hW hS hl hc hs
    replace hF := f_it_s hF
    have K15 : ∀ (x2 : Int32) (z : fST), f_it (b_m_remove_15 ) n (x2, z) = some (r, z') →  f_B p l e R s m args below meth c L Ar D b0 3 0 (f_E below args s L Ar D b0 0 (.inl none) z') 0 15 [(0, .ref (L 30 0)), (2, .int x2)] [] z := fun x2 z hF => ih x2 z hF
    generalize f_it (b_m_remove_15 ) n = k15 at hF K15
    unfold b_m_remove_15 at hF
    dsimp only at hF
    refine lv_iload_n hx hb d_m_remove_15 rfl (lv_at hl 1 rfl) ?_
    refine lv_bipush (v := 20) hx hb d_m_remove_16 (by decide) ?_
    refine lv_aload_n hx hb d_m_remove_18 rfl (lv_at hl 0 rfl) ?_
    refine hw_get (k := 30) (i := 0) (n := 1) (j := 4) (v := .int (f_gI z 30 0 4)) hx hb hts hown hK hW fl_m_52 rfl (by omega) rfl d_m_remove_19 ?_
    refine lv_imul hx hb d_m_remove_22 ?_
    refine lv_icmp_ge (tgt := 47) hx hb d_m_remove_23 (by decide) (fun h1 => ?_) (fun h1 => ?_)
    · replace hF := (if_pos h1).symm.trans hF
      exact hw_vret hx hb hr hlk hW hS (by omega) (by omega) d_m_remove_47 hF
    · replace hF := (if_neg h1).symm.trans hF
      refine lv_aload_n hx hb d_m_remove_26 rfl (lv_at hl 0 rfl) ?_
      refine hw_get (k := 30) (i := 0) (n := 1) (j := 3) (v := .ref (L 34 0)) hx hb hts hown hK hW fl_m_19 rfl (by omega) rfl d_m_remove_27 ?_
      refine lv_iload_n hx hb d_m_remove_30 rfl (lv_at hl 1 rfl) ?_
      refine lv_aload_n hx hb d_m_remove_31 rfl (lv_at hl 0 rfl) ?_
      refine hw_get (k := 30) (i := 0) (n := 1) (j := 3) (v := .ref (L 34 0)) hx hb hts hown hK hW fl_m_19 rfl (by omega) rfl d_m_remove_32 ?_
      refine lv_iload_n hx hb d_m_remove_35 rfl (lv_at hl 1 rfl) ?_
      refine lv_bipush (v := 20) hx hb d_m_remove_36 (by decide) ?_
      refine lv_iadd hx hb d_m_remove_38 ?_
      obtain ⟨g2, hF⟩ := f_gd_some hF
      refine hw_iald (k := 34) (i := 0) (n := 1) hx hb hK hW (by decide) rfl (by omega) rfl g2 d_m_remove_39 ?_
      obtain ⟨g3, hF⟩ := f_gd_some hF
      refine hw_iast (k := 34) (i := 0) (n := 1) hx hb hK hLi hW hS (by decide) rfl (by omega) rfl g3 d_m_remove_40 (fun H locs hW hS => ?_)
      refine lv_iinc (k := 1) (x := x2) (v := x2 + 1) (lv' := [(2, .int (x2 + 1)), (0, .ref (L 30 0))]) hx hb d_m_remove_41 hl rfl rfl (by decide) rfl (fun ls hl => ?_)
      refine lv_goto (tgt := 15) hx hb d_m_remove_44 (by decide) ?_
      exact K15 (x2 + 1) (f_pI z 34 0 (f_ix x2) (f_gI z 34 0 (f_ix (x2 + 20)))) hF _ _ _ _ _ hW hS (lv_sub hl [1, 0] rfl) (by omega) (by omega)
  intro H locs ls cells slots hW hS hl hc hs
  have hl : lv_has ls 3 [(0, .ref (L 30 0)), (1, .int a1)] := hl
  unfold F_m_remove at hF
  refine lv_aload_n hx hb d_m_remove_0 rfl (lv_at hl 0 rfl) ?_
  refine lv_dup hx hb d_m_remove_1 rfl ?_
  refine hw_get (k := 30) (i := 0) (n := 1) (j := 4) (v := .int (f_gI z 30 0 4)) hx hb hts hown hK hW fl_m_52 rfl (by omega) rfl d_m_remove_2 ?_
  refine lv_iconst (v := 1) hx hb d_m_remove_5 (by decide) ?_
  refine lv_isub hx hb d_m_remove_6 ?_
  refine hw_put (k := 30) (i := 0) (n := 1) (j := 4) (v := (f_gI z 30 0 4) - 1) hx hb hts hown hK hLi hW hS fp_m_52 (vp_nar_int _) rfl rfl (by omega) d_m_remove_7 (fun H locs hW hS => ?_)
  refine lv_bipush (v := 20) hx hb d_m_remove_10 (by decide) ?_
  refine lv_iload_n hx hb d_m_remove_12 rfl (lv_at hl 1 rfl) ?_
  refine lv_imul hx hb d_m_remove_13 ?_
  refine lv_istore_n (lv' := [(2, .int (20 * a1)), (0, .ref (L 30 0)), (1, .int a1)]) hx hb d_m_remove_14 rfl hl (by decide) rfl (fun ls hl => ?_)
  exact B15 2000 (20 * a1) (f_pI z 30 0 4 ((f_gI z 30 0 4) - 1)) hF _ _ _ _ _ hW hS (lv_sub hl [1, 0] rfl) (by omega) (by omega)
set_option maxRecDepth 100000 in
set_option maxHeartbeats 4000000 in
theorem c_m_find_ok (l : Launch) (hl0 : l.stackTraces = false) {L : Nat → Nat → Nat} {Ar : Nat → ClassId} {D : va_G} {b0 : Nat} (hLi : f_L L b0) (a1 : Int32)  (z : fST) (r : Int32) (z' : fST) (hF : F_m_find a1 z = some (r, z')) : f_C l y_m_find wt 2 0 L Ar D b0 [.ref (L 30 0), .int a1] z (.inl (some (.int r))) z' := by
  refine f_ofW (cc := c_m_find) (maxL := 3) (ret := (some FieldType.int)) (by decide) w_m_find (Nat.le_of_ble_eq_true rfl) ?_
  intro p e s m args below meth c R hRf hRl hRc hRs hx hb hr hlk hml hno hts hown hK hZ hsz
  have B2 : ∀  (n : Nat) (x1 : Int32) (x2 : Int32) (z : fST), f_it (b_m_find_2 ) n (x1, x2, z) = some (r, z') →  f_B p l e R s m args below meth c L Ar D b0 3 0 (f_E below args s L Ar D b0 0 (.inl (some (.int r))) z') 0 2 [(0, .ref (L 30 0)), (1, .int x1), (2, .int x2)] [] z := by
    intro  n
    induction n with
    | zero => intro x1 x2 z hF; cases hF
    | succ n ih =>
    intro x1 x2 z hF  H locs ls cells slots hW hS hl hc hs
    replace hF := f_it_s hF
    have K2 : ∀ (x1 : Int32) (x2 : Int32) (z : fST), f_it (b_m_find_2 ) n (x1, x2, z) = some (r, z') →  f_B p l e R s m args below meth c L Ar D b0 3 0 (f_E below args s L Ar D b0 0 (.inl (some (.int r))) z') 0 2 [(0, .ref (L 30 0)), (1, .int x1), (2, .int x2)] [] z := fun x1 x2 z hF => ih x1 x2 z hF
    generalize f_it (b_m_find_2 ) n = k2 at hF K2
    unfold b_m_find_2 at hF
    dsimp only at hF
    refine lv_iload_n hx hb d_m_find_2 rfl (lv_at hl 2 rfl) ?_
    refine lv_aload_n hx hb d_m_find_3 rfl (lv_at hl 0 rfl) ?_
    refine hw_get (k := 30) (i := 0) (n := 1) (j := 4) (v := .int (f_gI z 30 0 4)) hx hb hts hown hK hW fl_m_52 rfl (by omega) rfl d_m_find_4 ?_
    refine lv_icmp_ge (tgt := 28) hx hb d_m_find_7 (by decide) (fun h1 => ?_) (fun h1 => ?_)
    · replace hF := (if_pos h1).symm.trans hF
      refine lv_iconst (v := (-1)) hx hb d_m_find_28 (by decide) ?_
      exact hw_iret hx hb hr hlk (vp_nar_int _) hW hS (by omega) (by omega) d_m_find_29 hF
    · replace hF := (if_neg h1).symm.trans hF
      refine lv_aload_n hx hb d_m_find_10 rfl (lv_at hl 0 rfl) ?_
      refine lv_iload_n hx hb d_m_find_11 rfl (lv_at hl 2 rfl) ?_
      refine lv_iconst (v := 0) hx hb d_m_find_12 (by decide) ?_
      obtain ⟨v2, z2, hc2, hF⟩ := f_bd_some hF
      refine hw_VR (k := 30) (i := 0) (nk := 1) (As := [.int x2, .int 0]) (rest := []) hx hb hml hown hts (c_m_get_ok l hl0 hLi x2 0  _ _ _ hc2) st_m_48 (by decide) rfl (by omega) rfl rfl hK hZ hsz hS hW rfl hl.1 (Nat.le_of_ble_eq_true rfl) d_m_find_13 (by omega) (by omega) (by omega) (by omega) (fun H locs hW hS => ?_)
      refine lv_iload_n hx hb d_m_find_16 rfl (lv_at hl 1 rfl) ?_
      refine lv_icmp_ne (tgt := 22) hx hb d_m_find_17 (by decide) (fun h3 => ?_) (fun h3 => ?_)
      · replace hF := (if_neg h3).symm.trans hF
        refine lv_iinc (k := 2) (x := x2) (v := x2 + 1) (lv' := [(2, .int (x2 + 1)), (0, .ref (L 30 0)), (1, .int x1)]) hx hb d_m_find_22 hl rfl rfl (by decide) rfl (fun ls hl => ?_)
        refine lv_goto (tgt := 2) hx hb d_m_find_25 (by decide) ?_
        exact K2 x1 (x2 + 1) z2 hF _ _ _ _ _ hW hS (lv_sub hl [1, 2, 0] rfl) (by omega) (by omega)
      · replace hF := (if_pos h3).symm.trans hF
        refine lv_iload_n hx hb d_m_find_20 rfl (lv_at hl 2 rfl) ?_
        exact hw_iret hx hb hr hlk (vp_nar_int _) hW hS (by omega) (by omega) d_m_find_21 hF
  intro H locs ls cells slots hW hS hl hc hs
  have hl : lv_has ls 3 [(0, .ref (L 30 0)), (1, .int a1)] := hl
  unfold F_m_find at hF
  refine lv_iconst (v := 0) hx hb d_m_find_0 (by decide) ?_
  refine lv_istore_n (lv' := [(2, .int 0), (0, .ref (L 30 0)), (1, .int a1)]) hx hb d_m_find_1 rfl hl (by decide) rfl (fun ls hl => ?_)
  exact B2 2000 a1 0 z hF _ _ _ _ _ hW hS (lv_sub hl [1, 2, 0] rfl) (by omega) (by omega)
set_option maxRecDepth 100000 in
set_option maxHeartbeats 4000000 in
theorem c_m_contour_ok (l : Launch) (hl0 : l.stackTraces = false) {L : Nat → Nat → Nat} {Ar : Nat → ClassId} {D : va_G} {b0 : Nat} (hLi : f_L L b0) (a1 : Int32) (a2 : Int32) (a3 : Int32) (a4 : Int32)  (z : fST) (r : Unit) (z' : fST) (hF : F_m_contour a1 a2 a3 a4 z = some (r, z')) : f_C l y_m_contour wt 2 0 L Ar D b0 [.ref (L 30 0), .int a1, .int a2, .int a3, .int a4] z (.inl none) z' := by
  refine f_ofW (cc := c_m_contour) (maxL := 6) (ret := (Option.none : Option Jvm.ClassFile.FieldType)) (by decide) w_m_contour (Nat.le_of_ble_eq_true rfl) ?_
  intro p e s m args below meth c R hRf hRl hRc hRs hx hb hr hlk hml hno hts hown hK hZ hsz
  have B80 : ∀ (k51 : Int32 × Int32 × Int32 × Int32 × Int32 × fST → Option (Unit × fST)) (K51 : ∀ (x1 : Int32) (x2 : Int32) (x3 : Int32) (x4 : Int32) (x5 : Int32) (z : fST), k51 (x1, x2, x3, x4, x5, z) = some (r, z') →  f_B p l e R s m args below meth c L Ar D b0 6 0 (f_E below args s L Ar D b0 0 (.inl none) z') 0 51 [(0, .ref (L 30 0)), (1, .int x1), (2, .int x2), (3, .int x3), (4, .int x4), (5, .int x5)] [] z) (x1 : Int32) (x2 : Int32) (x3 : Int32) (x4 : Int32) (x5 : Int32) (y1 : Int32) (y2 : Int32) (z : fST), b_m_contour_80 k51 x1 x2 x3 x4 x5 y1 y2 z = some (r, z') →  f_B p l e R s m args below meth c L Ar D b0 6 0 (f_E below args s L Ar D b0 0 (.inl none) z') 0 80 [(0, .ref (L 30 0)), (1, .int x1), (2, .int x2), (3, .int x3), (4, .int x4), (5, .int x5)] [.int y2, .int y1, .ref (L 31 0)] z := by
    intro k51 K51 x1 x2 x3 x4 x5 y1 y2 z hF  H locs ls cells slots hW hS hl hc hs
    unfold b_m_contour_80 at hF
    refine lv_bipush (v := 24) hx hb d_m_contour_80 (by decide) ?_
    refine lv_bipush (v := 8) hx hb d_m_contour_82 (by decide) ?_
    refine lv_iload hx hb d_m_contour_84 (lv_at hl 5 rfl) ?_
    refine lv_iconst (v := 4) hx hb d_m_contour_86 (by decide) ?_
    refine lv_irem hx hb d_m_contour_87 (by decide) ?_
    refine lv_imul hx hb d_m_contour_88 ?_
    refine lv_isub hx hb d_m_contour_89 ?_
    refine lv_ishr hx hb d_m_contour_90 ?_
    refine lv_sipush (v := 255) hx hb d_m_contour_91 (by decide) ?_
    refine lv_iand hx hb d_m_contour_94 ?_
    obtain ⟨g12, hF⟩ := f_gd_some hF
    refine hw_iast (k := 31) (i := 0) (n := 1) hx hb hK hLi hW hS (by decide) rfl (by omega) rfl g12 d_m_contour_95 (fun H locs hW hS => ?_)
    refine lv_iinc (k := 5) (x := x5) (v := x5 + 1) (lv' := [(5, .int (x5 + 1)), (0, .ref (L 30 0)), (1, .int x1), (2, .int x2), (3, .int x3), (4, .int x4)]) hx hb d_m_contour_96 hl rfl rfl (by decide) rfl (fun ls hl => ?_)
    refine lv_goto (tgt := 51) hx hb d_m_contour_99 (by decide) ?_
    exact K51 x1 x2 x3 x4 (x5 + 1) (f_pI z 31 0 (f_ix y1) ((y2 >>> ((24 - (8 * (x5 - x5 / 4 * 4))) &&& 31)) &&& 255)) hF _ _ _ _ _ hW hS (lv_sub hl [1, 2, 3, 4, 5, 0] rfl) (by omega) (by omega)
  have B51 : ∀  (n : Nat) (x1 : Int32) (x2 : Int32) (x3 : Int32) (x4 : Int32) (x5 : Int32) (z : fST), f_it (b_m_contour_51 ) n (x1, x2, x3, x4, x5, z) = some (r, z') →  f_B p l e R s m args below meth c L Ar D b0 6 0 (f_E below args s L Ar D b0 0 (.inl none) z') 0 51 [(0, .ref (L 30 0)), (1, .int x1), (2, .int x2), (3, .int x3), (4, .int x4), (5, .int x5)] [] z := by
    intro  n
    induction n with
    | zero => intro x1 x2 x3 x4 x5 z hF; cases hF
    | succ n ih =>
    intro x1 x2 x3 x4 x5 z hF  H locs ls cells slots hW hS hl hc hs
    replace hF := f_it_s hF
    have K51 : ∀ (x1 : Int32) (x2 : Int32) (x3 : Int32) (x4 : Int32) (x5 : Int32) (z : fST), f_it (b_m_contour_51 ) n (x1, x2, x3, x4, x5, z) = some (r, z') →  f_B p l e R s m args below meth c L Ar D b0 6 0 (f_E below args s L Ar D b0 0 (.inl none) z') 0 51 [(0, .ref (L 30 0)), (1, .int x1), (2, .int x2), (3, .int x3), (4, .int x4), (5, .int x5)] [] z := fun x1 x2 x3 x4 x5 z hF => ih x1 x2 x3 x4 x5 z hF
    generalize f_it (b_m_contour_51 ) n = k51 at hF K51
    unfold b_m_contour_51 at hF
    dsimp only at hF
    refine lv_iload hx hb d_m_contour_51 (lv_at hl 5 rfl) ?_
    refine lv_bipush (v := 8) hx hb d_m_contour_53 (by decide) ?_
    refine lv_icmp_ge (tgt := 102) hx hb d_m_contour_55 (by decide) (fun h9 => ?_) (fun h9 => ?_)
    · replace hF := (if_pos h9).symm.trans hF
      refine lv_aload_n hx hb d_m_contour_102 rfl (lv_at hl 0 rfl) ?_
      refine hw_get (k := 30) (i := 0) (n := 1) (j := 1) (v := .ref (L 32 0)) hx hb hts hown hK hW fl_m_13 rfl (by omega) rfl d_m_contour_103 ?_
      refine lv_iload_n hx hb d_m_contour_106 rfl (lv_at hl 1 rfl) ?_
      refine lv_iload hx hb d_m_contour_107 (lv_at hl 4 rfl) ?_
      obtain ⟨g10, hF⟩ := f_gd_some hF
      refine hw_iast (k := 32) (i := 0) (n := 1) hx hb hK hLi hW hS (by decide) rfl (by omega) rfl g10 d_m_contour_109 (fun H locs hW hS => ?_)
      exact hw_vret hx hb hr hlk hW hS (by omega) (by omega) d_m_contour_110 hF
    · replace hF := (if_neg h9).symm.trans hF
      refine lv_aload_n hx hb d_m_contour_58 rfl (lv_at hl 0 rfl) ?_
      refine hw_get (k := 30) (i := 0) (n := 1) (j := 0) (v := .ref (L 31 0)) hx hb hts hown hK hW fl_m_7 rfl (by omega) rfl d_m_contour_59 ?_
      refine lv_bipush (v := 8) hx hb d_m_contour_62 (by decide) ?_
      refine lv_iload_n hx hb d_m_contour_64 rfl (lv_at hl 1 rfl) ?_
      refine lv_imul hx hb d_m_contour_65 ?_
      refine lv_iload hx hb d_m_contour_66 (lv_at hl 5 rfl) ?_
      refine lv_iadd hx hb d_m_contour_68 ?_
      refine lv_iload hx hb d_m_contour_69 (lv_at hl 5 rfl) ?_
      refine lv_iconst (v := 4) hx hb d_m_contour_71 (by decide) ?_
      refine lv_icmp_ge (tgt := 79) hx hb d_m_contour_72 (by decide) (fun h11 => ?_) (fun h11 => ?_)
      · replace hF := (if_pos h11).symm.trans hF
        refine lv_iload_n hx hb d_m_contour_79 rfl (lv_at hl 3 rfl) ?_
        exact B80 k51 K51 x1 x2 x3 x4 x5 ((8 * x1) + x5) x3 z hF _ _ _ _ _ hW hS (lv_sub hl [0, 1, 2, 3, 4, 5] rfl) (by omega) (by omega)
      · replace hF := (if_neg h11).symm.trans hF
        refine lv_iload_n hx hb d_m_contour_75 rfl (lv_at hl 2 rfl) ?_
        refine lv_goto (tgt := 80) hx hb d_m_contour_76 (by decide) ?_
        exact B80 k51 K51 x1 x2 x3 x4 x5 ((8 * x1) + x5) x2 z hF _ _ _ _ _ hW hS (lv_sub hl [0, 1, 2, 3, 4, 5] rfl) (by omega) (by omega)
  have B40 : ∀  (x1 : Int32) (x2 : Int32) (x3 : Int32) (x4 : Int32) (y1 : Int32) (z : fST), b_m_contour_40  x1 x2 x3 x4 y1 z = some (r, z') →  f_B p l e R s m args below meth c L Ar D b0 6 0 (f_E below args s L Ar D b0 0 (.inl none) z') 0 40 [(0, .ref (L 30 0)), (1, .int x1), (2, .int x2), (3, .int x3), (4, .int x4)] [.int y1, .ref (L 30 0)] z := by
    intro  x1 x2 x3 x4 y1 z hF  H locs ls cells slots hW hS hl hc hs
    unfold b_m_contour_40 at hF
    refine lv_iconst (v := 2) hx hb d_m_contour_40 (by decide) ?_
    obtain ⟨v7, z7, hc7, hF⟩ := f_bd_some hF
    refine hw_VR (k := 30) (i := 0) (nk := 1) (As := [.int y1, .int 2]) (rest := []) hx hb hml hown hts (c_m_fails_ok l hl0 hLi y1 2  _ _ _ hc7) st_m_59 (by decide) rfl (by omega) rfl rfl hK hZ hsz hS hW rfl hl.1 (Nat.le_of_ble_eq_true rfl) d_m_contour_41 (by omega) (by omega) (by omega) (by omega) (fun H locs hW hS => ?_)
    refine lv_if_eq (tgt := 48) hx hb d_m_contour_44 (by decide) (fun h8 => ?_) (fun h8 => ?_)
    · replace hF := (if_pos h8).symm.trans hF
      refine lv_iconst (v := 0) hx hb d_m_contour_48 (by decide) ?_
      refine lv_istore (lv' := [(5, .int 0), (0, .ref (L 30 0)), (1, .int x1), (2, .int x2), (3, .int x3), (4, .int x4)]) hx hb d_m_contour_49 hl (by decide) rfl (fun ls hl => ?_)
      exact B51 2000 x1 x2 x3 x4 0 z7 hF _ _ _ _ _ hW hS (lv_sub hl [1, 2, 3, 4, 5, 0] rfl) (by omega) (by omega)
    · replace hF := (if_neg h8).symm.trans hF
      exact hw_vret hx hb hr hlk hW hS (by omega) (by omega) d_m_contour_47 hF
  have B35 : ∀  (x1 : Int32) (x2 : Int32) (x3 : Int32) (x4 : Int32) (z : fST), b_m_contour_35  x1 x2 x3 x4 z = some (r, z') →  f_B p l e R s m args below meth c L Ar D b0 6 0 (f_E below args s L Ar D b0 0 (.inl none) z') 0 35 [(0, .ref (L 30 0)), (1, .int x1), (2, .int x2), (3, .int x3), (4, .int x4)] [.ref (L 30 0)] z := by
    intro  x1 x2 x3 x4 z hF  H locs ls cells slots hW hS hl hc hs
    unfold b_m_contour_35 at hF
    refine lv_iconst (v := 1) hx hb d_m_contour_35 (by decide) ?_
    refine lv_goto (tgt := 40) hx hb d_m_contour_36 (by decide) ?_
    exact B40 x1 x2 x3 x4 1 z hF _ _ _ _ _ hW hS (lv_sub hl [0, 1, 2, 3, 4] rfl) (by omega) (by omega)
  intro H locs ls cells slots hW hS hl hc hs
  have hl : lv_has ls 6 [(0, .ref (L 30 0)), (1, .int a1), (2, .int a2), (3, .int a3), (4, .int a4)] := hl
  unfold F_m_contour at hF
  refine lv_aload_n hx hb d_m_contour_0 rfl (lv_at hl 0 rfl) ?_
  refine lv_aload_n hx hb d_m_contour_1 rfl (lv_at hl 0 rfl) ?_
  refine hw_get (k := 30) (i := 0) (n := 1) (j := 17) (v := .int (f_gI z 30 0 17)) hx hb hts hown hK hW fl_m_55 rfl (by omega) rfl d_m_contour_2 ?_
  refine lv_iconst (v := 1) hx hb d_m_contour_5 (by decide) ?_
  obtain ⟨v1, z1, hc1, hF⟩ := f_bd_some hF
  refine hw_VR (k := 30) (i := 0) (nk := 1) (As := [.int (f_gI z 30 0 17), .int 1]) (rest := []) hx hb hml hown hts (c_m_fails_ok l hl0 hLi (f_gI z 30 0 17) 1  _ _ _ hc1) st_m_59 (by decide) rfl (by omega) rfl rfl hK hZ hsz hS hW rfl hl.1 (Nat.le_of_ble_eq_true rfl) d_m_contour_6 (by omega) (by omega) (by omega) (by omega) (fun H locs hW hS => ?_)
  refine lv_if_ne (tgt := 47) hx hb d_m_contour_9 (by decide) (fun h2 => ?_) (fun h2 => ?_)
  · replace hF := (if_neg h2).symm.trans hF
    exact hw_vret hx hb hr hlk hW hS (by omega) (by omega) d_m_contour_47 hF
  · replace hF := (if_pos h2).symm.trans hF
    refine lv_aload_n hx hb d_m_contour_12 rfl (lv_at hl 0 rfl) ?_
    refine lv_iload_n hx hb d_m_contour_13 rfl (lv_at hl 1 rfl) ?_
    refine lv_iconst (v := 0) hx hb d_m_contour_14 (by decide) ?_
    refine lv_bipush (v := 7) hx hb d_m_contour_15 (by decide) ?_
    obtain ⟨v3, z3, hc3, hF⟩ := f_bd_some hF
    refine hw_SR (As := [.int a1, .int 0, .int 7]) (rest := [.ref (L 30 0)]) hx hb hml hown hts (c_m_within_ok l hl0 hLi a1 0 7  _ _ _ hc3) st_m_63 hK hZ hsz hS hW rfl hl.1 (Nat.le_of_ble_eq_true rfl) d_m_contour_17 (by omega) (by omega) (by omega) (by omega) (fun H locs hW hS => ?_)
    refine lv_if_eq (tgt := 35) hx hb d_m_contour_20 (by decide) (fun h4 => ?_) (fun h4 => ?_)
    · replace hF := (if_pos h4).symm.trans hF
      exact B35 a1 a2 a3 a4 z3 hF _ _ _ _ _ hW hS (lv_sub hl [0, 1, 2, 3, 4] rfl) (by omega) (by omega)
    · replace hF := (if_neg h4).symm.trans hF
      refine lv_iload hx hb d_m_contour_23 (lv_at hl 4 rfl) ?_
      refine lv_iconst (v := 0) hx hb d_m_contour_25 (by decide) ?_
      refine lv_sipush (v := 2040) hx hb d_m_contour_26 (by decide) ?_
      obtain ⟨v5, z5, hc5, hF⟩ := f_bd_some hF
      refine hw_SR (As := [.int a4, .int 0, .int 2040]) (rest := [.ref (L 30 0)]) hx hb hml hown hts (c_m_within_ok l hl0 hLi a4 0 2040  _ _ _ hc5) st_m_63 hK hZ hsz hS hW rfl hl.1 (Nat.le_of_ble_eq_true rfl) d_m_contour_29 (by omega) (by omega) (by omega) (by omega) (fun H locs hW hS => ?_)
      refine lv_if_ne (tgt := 39) hx hb d_m_contour_32 (by decide) (fun h6 => ?_) (fun h6 => ?_)
      · replace hF := (if_neg h6).symm.trans hF
        refine lv_iconst (v := 0) hx hb d_m_contour_39 (by decide) ?_
        exact B40 a1 a2 a3 a4 0 z5 hF _ _ _ _ _ hW hS (lv_sub hl [0, 1, 2, 3, 4] rfl) (by omega) (by omega)
      · replace hF := (if_pos h6).symm.trans hF
        exact B35 a1 a2 a3 a4 z5 hF _ _ _ _ _ hW hS (lv_sub hl [0, 1, 2, 3, 4] rfl) (by omega) (by omega)
set_option maxRecDepth 100000 in
set_option maxHeartbeats 4000000 in
theorem c_m_kindOf_ok (l : Launch) (hl0 : l.stackTraces = false) {L : Nat → Nat → Nat} {Ar : Nat → ClassId} {D : va_G} {b0 : Nat} (hLi : f_L L b0) (a1 : Int32)  (z : fST) (r : Int32) (z' : fST) (hF : F_m_kindOf a1 z = some (r, z')) : f_C l y_m_kindOf wt 1 0 L Ar D b0 [.ref (L 30 0), .int a1] z (.inl (some (.int r))) z' := by
  refine f_ofW (cc := c_m_kindOf) (maxL := 3) (ret := (some FieldType.int)) (by decide) w_m_kindOf (Nat.le_of_ble_eq_true rfl) ?_
  intro p e s m args below meth c R hRf hRl hRc hRs hx hb hr hlk hml hno hts hown hK hZ hsz
  have B2 : ∀  (n : Nat) (x1 : Int32) (x2 : Int32) (z : fST), f_it (b_m_kindOf_2 ) n (x1, x2, z) = some (r, z') →  f_B p l e R s m args below meth c L Ar D b0 3 0 (f_E below args s L Ar D b0 0 (.inl (some (.int r))) z') 0 2 [(0, .ref (L 30 0)), (1, .int x1), (2, .int x2)] [] z := by
    intro  n
    induction n with
    | zero => intro x1 x2 z hF; cases hF
    | succ n ih =>
    intro x1 x2 z hF  H locs ls cells slots hW hS hl hc hs
    replace hF := f_it_s hF
    have K2 : ∀ (x1 : Int32) (x2 : Int32) (z : fST), f_it (b_m_kindOf_2 ) n (x1, x2, z) = some (r, z') →  f_B p l e R s m args below meth c L Ar D b0 3 0 (f_E below args s L Ar D b0 0 (.inl (some (.int r))) z') 0 2 [(0, .ref (L 30 0)), (1, .int x1), (2, .int x2)] [] z := fun x1 x2 z hF => ih x1 x2 z hF
    generalize f_it (b_m_kindOf_2 ) n = k2 at hF K2
    unfold b_m_kindOf_2 at hF
    dsimp only at hF
    refine lv_iload_n hx hb d_m_kindOf_2 rfl (lv_at hl 2 rfl) ?_
    refine lv_bipush (v := 40) hx hb d_m_kindOf_3 (by decide) ?_
    refine lv_icmp_ge (tgt := 29) hx hb d_m_kindOf_5 (by decide) (fun h1 => ?_) (fun h1 => ?_)
    · replace hF := (if_pos h1).symm.trans hF
      refine lv_iconst (v := (-1)) hx hb d_m_kindOf_29 (by decide) ?_
      exact hw_iret hx hb hr hlk (vp_nar_int _) hW hS (by omega) (by omega) d_m_kindOf_30 hF
    · replace hF := (if_neg h1).symm.trans hF
      refine lv_aload_n hx hb d_m_kindOf_8 rfl (lv_at hl 0 rfl) ?_
      refine hw_get (k := 30) (i := 0) (n := 1) (j := 2) (v := .ref (L 33 0)) hx hb hts hown hK hW fl_m_16 rfl (by omega) rfl d_m_kindOf_9 ?_
      refine lv_bipush (v := 6) hx hb d_m_kindOf_12 (by decide) ?_
      refine lv_iload_n hx hb d_m_kindOf_14 rfl (lv_at hl 2 rfl) ?_
      refine lv_imul hx hb d_m_kindOf_15 ?_
      obtain ⟨g2, hF⟩ := f_gd_some hF
      refine hw_iald (k := 33) (i := 0) (n := 1) hx hb hK hW (by decide) rfl (by omega) rfl g2 d_m_kindOf_16 ?_
      refine lv_iload_n hx hb d_m_kindOf_17 rfl (lv_at hl 1 rfl) ?_
      refine lv_icmp_ne (tgt := 23) hx hb d_m_kindOf_18 (by decide) (fun h3 => ?_) (fun h3 => ?_)
      · replace hF := (if_neg h3).symm.trans hF
        refine lv_iinc (k := 2) (x := x2) (v := x2 + 1) (lv' := [(2, .int (x2 + 1)), (0, .ref (L 30 0)), (1, .int x1)]) hx hb d_m_kindOf_23 hl rfl rfl (by decide) rfl (fun ls hl => ?_)
        refine lv_goto (tgt := 2) hx hb d_m_kindOf_26 (by decide) ?_
        exact K2 x1 (x2 + 1) z hF _ _ _ _ _ hW hS (lv_sub hl [1, 2, 0] rfl) (by omega) (by omega)
      · replace hF := (if_pos h3).symm.trans hF
        refine lv_iload_n hx hb d_m_kindOf_21 rfl (lv_at hl 2 rfl) ?_
        exact hw_iret hx hb hr hlk (vp_nar_int _) hW hS (by omega) (by omega) d_m_kindOf_22 hF
  intro H locs ls cells slots hW hS hl hc hs
  have hl : lv_has ls 3 [(0, .ref (L 30 0)), (1, .int a1)] := hl
  unfold F_m_kindOf at hF
  refine lv_iconst (v := 0) hx hb d_m_kindOf_0 (by decide) ?_
  refine lv_istore_n (lv' := [(2, .int 0), (0, .ref (L 30 0)), (1, .int a1)]) hx hb d_m_kindOf_1 rfl hl (by decide) rfl (fun ls hl => ?_)
  exact B2 2000 a1 0 z hF _ _ _ _ _ hW hS (lv_sub hl [1, 2, 0] rfl) (by omega) (by omega)
set_option maxRecDepth 100000 in
set_option maxHeartbeats 4000000 in
theorem c_m_kind_ok (l : Launch) (hl0 : l.stackTraces = false) {L : Nat → Nat → Nat} {Ar : Nat → ClassId} {D : va_G} {b0 : Nat} (hLi : f_L L b0) (a1 : Int32) (a2 : Int32) (a3 : Int32) (a4 : Int32) (a5 : Int32) (a6 : Int32) (a7 : Int32)  (z : fST) (r : Int32) (z' : fST) (hF : F_m_kind a1 a2 a3 a4 a5 a6 a7 z = some (r, z')) : f_C l y_m_kind wt 2 0 L Ar D b0 [.ref (L 30 0), .int a1, .int a2, .int a3, .int a4, .int a5, .int a6, .int a7] z (.inl (some (.int r))) z' := by
  refine f_ofW (cc := c_m_kind) (maxL := 11) (ret := (some FieldType.int)) (by decide) w_m_kind (Nat.le_of_ble_eq_true rfl) ?_
  intro p e s m args below meth c R hRf hRl hRc hRs hx hb hr hlk hml hno hts hown hK hZ hsz
  have B161 : ∀  (x1 : Int32) (x2 : Int32) (x3 : Int32) (x4 : Int32) (x5 : Int32) (x6 : Int32) (x7 : Int32) (x9 : Int32) (z : fST), b_m_kind_161  x1 x2 x3 x4 x5 x6 x7 x9 z = some (r, z') →  f_B p l e R s m args below meth c L Ar D b0 11 0 (f_E below args s L Ar D b0 0 (.inl (some (.int r))) z') 0 161 [(0, .ref (L 30 0)), (1, .int x1), (2, .int x2), (3, .int x3), (4, .int x4), (5, .int x5), (6, .int x6), (7, .int x7), (9, .int x9)] [] z := by
    intro  x1 x2 x3 x4 x5 x6 x7 x9 z hF  H locs ls cells slots hW hS hl hc hs
    unfold b_m_kind_161 at hF
    refine lv_bipush (v := 6) hx hb d_m_kind_161 (by decide) ?_
    refine lv_iload_n hx hb d_m_kind_163 rfl (lv_at hl 1 rfl) ?_
    refine lv_imul hx hb d_m_kind_164 ?_
    refine lv_istore (lv' := [(10, .int (6 * x1)), (0, .ref (L 30 0)), (1, .int x1), (2, .int x2), (3, .int x3), (4, .int x4), (5, .int x5), (6, .int x6), (7, .int x7), (9, .int x9)]) hx hb d_m_kind_165 hl (by decide) rfl (fun ls hl => ?_)
    refine lv_aload_n hx hb d_m_kind_167 rfl (lv_at hl 1 rfl) ?_
    refine hw_get (k := 30) (i := 0) (n := 1) (j := 2) (v := .ref (L 33 0)) hx hb hts hown hK hW fl_m_16 rfl (by omega) rfl d_m_kind_168 ?_
    refine lv_iload hx hb d_m_kind_171 (lv_at hl 0 rfl) ?_
    refine lv_iload_n hx hb d_m_kind_173 rfl (lv_at hl 3 rfl) ?_
    obtain ⟨g26, hF⟩ := f_gd_some hF
    refine hw_iast (k := 33) (i := 0) (n := 1) hx hb hK hLi hW hS (by decide) rfl (by omega) rfl g26 d_m_kind_174 (fun H locs hW hS => ?_)
    refine lv_aload_n hx hb d_m_kind_175 rfl (lv_at hl 1 rfl) ?_
    refine hw_get (k := 30) (i := 0) (n := 1) (j := 2) (v := .ref (L 33 0)) hx hb hts hown hK hW fl_m_16 rfl (by omega) rfl d_m_kind_176 ?_
    refine lv_iload hx hb d_m_kind_179 (lv_at hl 0 rfl) ?_
    refine lv_iconst (v := 1) hx hb d_m_kind_181 (by decide) ?_
    refine lv_iadd hx hb d_m_kind_182 ?_
    refine lv_iload_n hx hb d_m_kind_183 rfl (lv_at hl 4 rfl) ?_
    obtain ⟨g27, hF⟩ := f_gd_some hF
    refine hw_iast (k := 33) (i := 0) (n := 1) hx hb hK hLi hW hS (by decide) rfl (by omega) rfl g27 d_m_kind_184 (fun H locs hW hS => ?_)
    refine lv_aload_n hx hb d_m_kind_185 rfl (lv_at hl 1 rfl) ?_
    refine hw_get (k := 30) (i := 0) (n := 1) (j := 2) (v := .ref (L 33 0)) hx hb hts hown hK hW fl_m_16 rfl (by omega) rfl d_m_kind_186 ?_
    refine lv_iload hx hb d_m_kind_189 (lv_at hl 0 rfl) ?_
    refine lv_iconst (v := 2) hx hb d_m_kind_191 (by decide) ?_
    refine lv_iadd hx hb d_m_kind_192 ?_
    refine lv_iload hx hb d_m_kind_193 (lv_at hl 5 rfl) ?_
    obtain ⟨g28, hF⟩ := f_gd_some hF
    refine hw_iast (k := 33) (i := 0) (n := 1) hx hb hK hLi hW hS (by decide) rfl (by omega) rfl g28 d_m_kind_195 (fun H locs hW hS => ?_)
    refine lv_aload_n hx hb d_m_kind_196 rfl (lv_at hl 1 rfl) ?_
    refine hw_get (k := 30) (i := 0) (n := 1) (j := 2) (v := .ref (L 33 0)) hx hb hts hown hK hW fl_m_16 rfl (by omega) rfl d_m_kind_197 ?_
    refine lv_iload hx hb d_m_kind_200 (lv_at hl 0 rfl) ?_
    refine lv_iconst (v := 3) hx hb d_m_kind_202 (by decide) ?_
    refine lv_iadd hx hb d_m_kind_203 ?_
    refine lv_iload hx hb d_m_kind_204 (lv_at hl 6 rfl) ?_
    obtain ⟨g29, hF⟩ := f_gd_some hF
    refine hw_iast (k := 33) (i := 0) (n := 1) hx hb hK hLi hW hS (by decide) rfl (by omega) rfl g29 d_m_kind_206 (fun H locs hW hS => ?_)
    refine lv_aload_n hx hb d_m_kind_207 rfl (lv_at hl 1 rfl) ?_
    refine hw_get (k := 30) (i := 0) (n := 1) (j := 2) (v := .ref (L 33 0)) hx hb hts hown hK hW fl_m_16 rfl (by omega) rfl d_m_kind_208 ?_
    refine lv_iload hx hb d_m_kind_211 (lv_at hl 0 rfl) ?_
    refine lv_iconst (v := 4) hx hb d_m_kind_213 (by decide) ?_
    refine lv_iadd hx hb d_m_kind_214 ?_
    refine lv_iload hx hb d_m_kind_215 (lv_at hl 7 rfl) ?_
    obtain ⟨g30, hF⟩ := f_gd_some hF
    refine hw_iast (k := 33) (i := 0) (n := 1) hx hb hK hLi hW hS (by decide) rfl (by omega) rfl g30 d_m_kind_217 (fun H locs hW hS => ?_)
    refine lv_aload_n hx hb d_m_kind_218 rfl (lv_at hl 1 rfl) ?_
    refine hw_get (k := 30) (i := 0) (n := 1) (j := 2) (v := .ref (L 33 0)) hx hb hts hown hK hW fl_m_16 rfl (by omega) rfl d_m_kind_219 ?_
    refine lv_iload hx hb d_m_kind_222 (lv_at hl 0 rfl) ?_
    refine lv_iconst (v := 5) hx hb d_m_kind_224 (by decide) ?_
    refine lv_iadd hx hb d_m_kind_225 ?_
    refine lv_iload hx hb d_m_kind_226 (lv_at hl 8 rfl) ?_
    obtain ⟨g31, hF⟩ := f_gd_some hF
    refine hw_iast (k := 33) (i := 0) (n := 1) hx hb hK hLi hW hS (by decide) rfl (by omega) rfl g31 d_m_kind_228 (fun H locs hW hS => ?_)
    refine lv_iload hx hb d_m_kind_229 (lv_at hl 9 rfl) ?_
    exact hw_iret hx hb hr hlk (vp_nar_int _) hW hS (by omega) (by omega) d_m_kind_231 hF
  have B128 : ∀  (x1 : Int32) (x2 : Int32) (x3 : Int32) (x4 : Int32) (x5 : Int32) (x6 : Int32) (x7 : Int32) (y1 : Int32) (z : fST), b_m_kind_128  x1 x2 x3 x4 x5 x6 x7 y1 z = some (r, z') →  f_B p l e R s m args below meth c L Ar D b0 11 0 (f_E below args s L Ar D b0 0 (.inl (some (.int r))) z') 0 128 [(0, .ref (L 30 0)), (1, .int x1), (2, .int x2), (3, .int x3), (4, .int x4), (5, .int x5), (6, .int x6), (7, .int x7)] [.int y1, .ref (L 30 0)] z := by
    intro  x1 x2 x3 x4 x5 x6 x7 y1 z hF  H locs ls cells slots hW hS hl hc hs
    unfold b_m_kind_128 at hF
    refine lv_iconst (v := 2) hx hb d_m_kind_128 (by decide) ?_
    obtain ⟨v21, z21, hc21, hF⟩ := f_bd_some hF
    refine hw_VR (k := 30) (i := 0) (nk := 1) (As := [.int y1, .int 2]) (rest := []) hx hb hml hown hts (c_m_fails_ok l hl0 hLi y1 2  _ _ _ hc21) st_m_59 (by decide) rfl (by omega) rfl rfl hK hZ hsz hS hW rfl hl.1 (Nat.le_of_ble_eq_true rfl) d_m_kind_129 (by omega) (by omega) (by omega) (by omega) (fun H locs hW hS => ?_)
    refine lv_if_eq (tgt := 137) hx hb d_m_kind_132 (by decide) (fun h22 => ?_) (fun h22 => ?_)
    · replace hF := (if_pos h22).symm.trans hF
      refine lv_aload_n hx hb d_m_kind_137 rfl (lv_at hl 0 rfl) ?_
      refine lv_iload_n hx hb d_m_kind_138 rfl (lv_at hl 2 rfl) ?_
      obtain ⟨v23, z23, hc23, hF⟩ := f_bd_some hF
      refine hw_VR (k := 30) (i := 0) (nk := 1) (As := [.int x2]) (rest := []) hx hb hml hown hts (c_m_kindOf_ok l hl0 hLi x2  _ _ _ hc23) st_m_68 (by decide) rfl (by omega) rfl rfl hK hZ hsz hS hW rfl hl.1 (Nat.le_of_ble_eq_true rfl) d_m_kind_139 (by omega) (by omega) (by omega) (by omega) (fun H locs hW hS => ?_)
      refine lv_istore (lv' := [(9, .int v23), (0, .ref (L 30 0)), (1, .int x1), (2, .int x2), (3, .int x3), (4, .int x4), (5, .int x5), (6, .int x6), (7, .int x7)]) hx hb d_m_kind_142 hl (by decide) rfl (fun ls hl => ?_)
      refine lv_iload hx hb d_m_kind_144 (lv_at hl 0 rfl) ?_
      refine lv_iconst (v := (-1)) hx hb d_m_kind_146 (by decide) ?_
      refine lv_icmp_eq (tgt := 161) hx hb d_m_kind_147 (by decide) (fun h24 => ?_) (fun h24 => ?_)
      · replace hF := (if_pos h24).symm.trans hF
        exact B161 x1 x2 x3 x4 x5 x6 x7 v23 z23 hF _ _ _ _ _ hW hS (lv_sub hl [1, 2, 3, 4, 5, 6, 7, 8, 0] rfl) (by omega) (by omega)
      · replace hF := (if_neg h24).symm.trans hF
        refine lv_aload_n hx hb d_m_kind_150 rfl (lv_at hl 1 rfl) ?_
        refine hw_get (k := 30) (i := 0) (n := 1) (j := 2) (v := .ref (L 33 0)) hx hb hts hown hK hW fl_m_16 rfl (by omega) rfl d_m_kind_151 ?_
        refine lv_bipush (v := 6) hx hb d_m_kind_154 (by decide) ?_
        refine lv_iload hx hb d_m_kind_156 (lv_at hl 0 rfl) ?_
        refine lv_imul hx hb d_m_kind_158 ?_
        refine lv_iconst (v := 0) hx hb d_m_kind_159 (by decide) ?_
        obtain ⟨g25, hF⟩ := f_gd_some hF
        refine hw_iast (k := 33) (i := 0) (n := 1) hx hb hK hLi hW hS (by decide) rfl (by omega) rfl g25 d_m_kind_160 (fun H locs hW hS => ?_)
        exact B161 x1 x2 x3 x4 x5 x6 x7 v23 (f_pI z23 33 0 (f_ix (6 * v23)) 0) hF _ _ _ _ _ hW hS (lv_sub hl [1, 2, 3, 4, 5, 6, 7, 8, 0] rfl) (by omega) (by omega)
    · replace hF := (if_neg h22).symm.trans hF
      refine lv_iconst (v := 0) hx hb d_m_kind_135 (by decide) ?_
      exact hw_iret hx hb hr hlk (vp_nar_int _) hW hS (by omega) (by omega) d_m_kind_136 hF
  have B110 : ∀  (x1 : Int32) (x2 : Int32) (x3 : Int32) (x4 : Int32) (x5 : Int32) (x6 : Int32) (x7 : Int32) (x8 : Int32) (y1 : Int32) (z : fST), b_m_kind_110  x1 x2 x3 x4 x5 x6 x7 x8 y1 z = some (r, z') →  f_B p l e R s m args below meth c L Ar D b0 11 0 (f_E below args s L Ar D b0 0 (.inl (some (.int r))) z') 0 110 [(0, .ref (L 30 0)), (1, .int x1), (2, .int x2), (3, .int x3), (4, .int x4), (5, .int x5), (6, .int x6), (7, .int x7), (8, .int x8)] [.int y1, .ref (L 30 0)] z := by
    intro  x1 x2 x3 x4 x5 x6 x7 x8 y1 z hF  H locs ls cells slots hW hS hl hc hs
    unfold b_m_kind_110 at hF
    refine lv_iconst (v := 1) hx hb d_m_kind_110 (by decide) ?_
    obtain ⟨v18, z18, hc18, hF⟩ := f_bd_some hF
    refine hw_VR (k := 30) (i := 0) (nk := 1) (As := [.int y1, .int 1]) (rest := []) hx hb hml hown hts (c_m_fails_ok l hl0 hLi y1 1  _ _ _ hc18) st_m_59 (by decide) rfl (by omega) rfl rfl hK hZ hsz hS hW rfl hl.1 (Nat.le_of_ble_eq_true rfl) d_m_kind_111 (by omega) (by omega) (by omega) (by omega) (fun H locs hW hS => ?_)
    refine lv_if_ne (tgt := 135) hx hb d_m_kind_114 (by decide) (fun h19 => ?_) (fun h19 => ?_)
    · replace hF := (if_neg h19).symm.trans hF
      refine lv_iconst (v := 0) hx hb d_m_kind_135 (by decide) ?_
      exact hw_iret hx hb hr hlk (vp_nar_int _) hW hS (by omega) (by omega) d_m_kind_136 hF
    · replace hF := (if_pos h19).symm.trans hF
      refine lv_aload_n hx hb d_m_kind_117 rfl (lv_at hl 0 rfl) ?_
      refine lv_iload hx hb d_m_kind_118 (lv_at hl 8 rfl) ?_
      refine lv_if_ne (tgt := 127) hx hb d_m_kind_120 (by decide) (fun h20 => ?_) (fun h20 => ?_)
      · replace hF := (if_neg h20).symm.trans hF
        refine lv_iconst (v := 0) hx hb d_m_kind_127 (by decide) ?_
        exact B128 x1 x2 x3 x4 x5 x6 x7 0 z18 hF _ _ _ _ _ hW hS (lv_sub hl [0, 1, 2, 3, 4, 5, 6, 7] rfl) (by omega) (by omega)
      · replace hF := (if_pos h20).symm.trans hF
        refine lv_iconst (v := 1) hx hb d_m_kind_123 (by decide) ?_
        refine lv_goto (tgt := 128) hx hb d_m_kind_124 (by decide) ?_
        exact B128 x1 x2 x3 x4 x5 x6 x7 1 z18 hF _ _ _ _ _ hW hS (lv_sub hl [0, 1, 2, 3, 4, 5, 6, 7] rfl) (by omega) (by omega)
  have B105 : ∀  (x1 : Int32) (x2 : Int32) (x3 : Int32) (x4 : Int32) (x5 : Int32) (x6 : Int32) (x7 : Int32) (x8 : Int32) (z : fST), b_m_kind_105  x1 x2 x3 x4 x5 x6 x7 x8 z = some (r, z') →  f_B p l e R s m args below meth c L Ar D b0 11 0 (f_E below args s L Ar D b0 0 (.inl (some (.int r))) z') 0 105 [(0, .ref (L 30 0)), (1, .int x1), (2, .int x2), (3, .int x3), (4, .int x4), (5, .int x5), (6, .int x6), (7, .int x7), (8, .int x8)] [.ref (L 30 0)] z := by
    intro  x1 x2 x3 x4 x5 x6 x7 x8 z hF  H locs ls cells slots hW hS hl hc hs
    unfold b_m_kind_105 at hF
    refine lv_iconst (v := 1) hx hb d_m_kind_105 (by decide) ?_
    refine lv_goto (tgt := 110) hx hb d_m_kind_106 (by decide) ?_
    exact B110 x1 x2 x3 x4 x5 x6 x7 x8 1 z hF _ _ _ _ _ hW hS (lv_sub hl [0, 1, 2, 3, 4, 5, 6, 7, 8] rfl) (by omega) (by omega)
  have B88 : ∀  (x1 : Int32) (x2 : Int32) (x3 : Int32) (x4 : Int32) (x5 : Int32) (x6 : Int32) (x7 : Int32) (y0 : Int32) (z : fST), b_m_kind_88  x1 x2 x3 x4 x5 x6 x7 y0 z = some (r, z') →  f_B p l e R s m args below meth c L Ar D b0 11 0 (f_E below args s L Ar D b0 0 (.inl (some (.int r))) z') 0 88 [(0, .ref (L 30 0)), (1, .int x1), (2, .int x2), (3, .int x3), (4, .int x4), (5, .int x5), (6, .int x6), (7, .int x7)] [.int y0] z := by
    intro  x1 x2 x3 x4 x5 x6 x7 y0 z hF  H locs ls cells slots hW hS hl hc hs
    unfold b_m_kind_88 at hF
    refine lv_istore (lv' := [(8, .int y0), (0, .ref (L 30 0)), (1, .int x1), (2, .int x2), (3, .int x3), (4, .int x4), (5, .int x5), (6, .int x6), (7, .int x7)]) hx hb d_m_kind_88 hl (by decide) rfl (fun ls hl => ?_)
    refine lv_aload_n hx hb d_m_kind_90 rfl (lv_at hl 1 rfl) ?_
    refine lv_aload_n hx hb d_m_kind_91 rfl (lv_at hl 1 rfl) ?_
    refine hw_get (k := 30) (i := 0) (n := 1) (j := 17) (v := .int (f_gI z 30 0 17)) hx hb hts hown hK hW fl_m_55 rfl (by omega) rfl d_m_kind_92 ?_
    refine lv_if_ne (tgt := 105) hx hb d_m_kind_95 (by decide) (fun h16 => ?_) (fun h16 => ?_)
    · replace hF := (if_neg h16).symm.trans hF
      exact B105 x1 x2 x3 x4 x5 x6 x7 y0 z hF _ _ _ _ _ hW hS (lv_sub hl [1, 2, 3, 4, 5, 6, 7, 8, 0] rfl) (by omega) (by omega)
    · replace hF := (if_pos h16).symm.trans hF
      refine lv_aload_n hx hb d_m_kind_98 rfl (lv_at hl 1 rfl) ?_
      refine hw_get (k := 30) (i := 0) (n := 1) (j := 4) (v := .int (f_gI z 30 0 4)) hx hb hts hown hK hW fl_m_52 rfl (by omega) rfl d_m_kind_99 ?_
      refine lv_if_le (tgt := 109) hx hb d_m_kind_102 (by decide) (fun h17 => ?_) (fun h17 => ?_)
      · replace hF := (if_pos h17).symm.trans hF
        refine lv_iconst (v := 0) hx hb d_m_kind_109 (by decide) ?_
        exact B110 x1 x2 x3 x4 x5 x6 x7 y0 0 z hF _ _ _ _ _ hW hS (lv_sub hl [1, 2, 3, 4, 5, 6, 7, 8, 0] rfl) (by omega) (by omega)
      · replace hF := (if_neg h17).symm.trans hF
        exact B105 x1 x2 x3 x4 x5 x6 x7 y0 z hF _ _ _ _ _ hW hS (lv_sub hl [1, 2, 3, 4, 5, 6, 7, 8, 0] rfl) (by omega) (by omega)
  have B87 : ∀  (x1 : Int32) (x2 : Int32) (x3 : Int32) (x4 : Int32) (x5 : Int32) (x6 : Int32) (x7 : Int32) (z : fST), b_m_kind_87  x1 x2 x3 x4 x5 x6 x7 z = some (r, z') →  f_B p l e R s m args below meth c L Ar D b0 11 0 (f_E below args s L Ar D b0 0 (.inl (some (.int r))) z') 0 87 [(0, .ref (L 30 0)), (1, .int x1), (2, .int x2), (3, .int x3), (4, .int x4), (5, .int x5), (6, .int x6), (7, .int x7)] [] z := by
    intro  x1 x2 x3 x4 x5 x6 x7 z hF  H locs ls cells slots hW hS hl hc hs
    unfold b_m_kind_87 at hF
    refine lv_iconst (v := 0) hx hb d_m_kind_87 (by decide) ?_
    exact B88 x1 x2 x3 x4 x5 x6 x7 0 z hF _ _ _ _ _ hW hS (lv_sub hl [0, 1, 2, 3, 4, 5, 6, 7] rfl) (by omega) (by omega)
  intro H locs ls cells slots hW hS hl hc hs
  have hl : lv_has ls 11 [(0, .ref (L 30 0)), (1, .int a1), (2, .int a2), (3, .int a3), (4, .int a4), (5, .int a5), (6, .int a6), (7, .int a7)] := hl
  unfold F_m_kind at hF
  refine lv_iload_n hx hb d_m_kind_0 rfl (lv_at hl 1 rfl) ?_
  refine lv_iconst (v := 0) hx hb d_m_kind_1 (by decide) ?_
  refine lv_bipush (v := 39) hx hb d_m_kind_2 (by decide) ?_
  obtain ⟨v1, z1, hc1, hF⟩ := f_bd_some hF
  refine hw_SR (As := [.int a1, .int 0, .int 39]) (rest := []) hx hb hml hown hts (c_m_within_ok l hl0 hLi a1 0 39  _ _ _ hc1) st_m_63 hK hZ hsz hS hW rfl hl.1 (Nat.le_of_ble_eq_true rfl) d_m_kind_4 (by omega) (by omega) (by omega) (by omega) (fun H locs hW hS => ?_)
  refine lv_if_eq (tgt := 87) hx hb d_m_kind_7 (by decide) (fun h2 => ?_) (fun h2 => ?_)
  · replace hF := (if_pos h2).symm.trans hF
    exact B87 a1 a2 a3 a4 a5 a6 a7 z1 hF _ _ _ _ _ hW hS (lv_sub hl [0, 1, 2, 3, 4, 5, 6, 7] rfl) (by omega) (by omega)
  · replace hF := (if_neg h2).symm.trans hF
    refine lv_iload_n hx hb d_m_kind_10 rfl (lv_at hl 2 rfl) ?_
    refine lv_iconst (v := 1) hx hb d_m_kind_11 (by decide) ?_
    refine lv_ldc (v := 999999) hx hb hown (hts _ (wt_in (List.mem_of_getElem? (i := 815) (by decide +kernel)) rfl)) d_m_kind_12 ?_
    obtain ⟨v3, z3, hc3, hF⟩ := f_bd_some hF
    refine hw_SR (As := [.int a2, .int 1, .int 999999]) (rest := []) hx hb hml hown hts (c_m_within_ok l hl0 hLi a2 1 999999  _ _ _ hc3) st_m_63 hK hZ hsz hS hW rfl hl.1 (Nat.le_of_ble_eq_true rfl) d_m_kind_14 (by omega) (by omega) (by omega) (by omega) (fun H locs hW hS => ?_)
    refine lv_if_eq (tgt := 87) hx hb d_m_kind_17 (by decide) (fun h4 => ?_) (fun h4 => ?_)
    · replace hF := (if_pos h4).symm.trans hF
      exact B87 a1 a2 a3 a4 a5 a6 a7 z3 hF _ _ _ _ _ hW hS (lv_sub hl [0, 1, 2, 3, 4, 5, 6, 7] rfl) (by omega) (by omega)
    · replace hF := (if_neg h4).symm.trans hF
      refine lv_iload_n hx hb d_m_kind_20 rfl (lv_at hl 3 rfl) ?_
      refine lv_iconst (v := 1) hx hb d_m_kind_21 (by decide) ?_
      refine lv_sipush (v := 500) hx hb d_m_kind_22 (by decide) ?_
      obtain ⟨v5, z5, hc5, hF⟩ := f_bd_some hF
      refine hw_SR (As := [.int a3, .int 1, .int 500]) (rest := []) hx hb hml hown hts (c_m_within_ok l hl0 hLi a3 1 500  _ _ _ hc5) st_m_63 hK hZ hsz hS hW rfl hl.1 (Nat.le_of_ble_eq_true rfl) d_m_kind_25 (by omega) (by omega) (by omega) (by omega) (fun H locs hW hS => ?_)
      refine lv_if_eq (tgt := 87) hx hb d_m_kind_28 (by decide) (fun h6 => ?_) (fun h6 => ?_)
      · replace hF := (if_pos h6).symm.trans hF
        exact B87 a1 a2 a3 a4 a5 a6 a7 z5 hF _ _ _ _ _ hW hS (lv_sub hl [0, 1, 2, 3, 4, 5, 6, 7] rfl) (by omega) (by omega)
      · replace hF := (if_neg h6).symm.trans hF
        refine lv_iload hx hb d_m_kind_31 (lv_at hl 4 rfl) ?_
        refine lv_iconst (v := 0) hx hb d_m_kind_33 (by decide) ?_
        refine lv_iconst (v := 2) hx hb d_m_kind_34 (by decide) ?_
        obtain ⟨v7, z7, hc7, hF⟩ := f_bd_some hF
        refine hw_SR (As := [.int a4, .int 0, .int 2]) (rest := []) hx hb hml hown hts (c_m_within_ok l hl0 hLi a4 0 2  _ _ _ hc7) st_m_63 hK hZ hsz hS hW rfl hl.1 (Nat.le_of_ble_eq_true rfl) d_m_kind_35 (by omega) (by omega) (by omega) (by omega) (fun H locs hW hS => ?_)
        refine lv_if_eq (tgt := 87) hx hb d_m_kind_38 (by decide) (fun h8 => ?_) (fun h8 => ?_)
        · replace hF := (if_pos h8).symm.trans hF
          exact B87 a1 a2 a3 a4 a5 a6 a7 z7 hF _ _ _ _ _ hW hS (lv_sub hl [0, 1, 2, 3, 4, 5, 6, 7] rfl) (by omega) (by omega)
        · replace hF := (if_neg h8).symm.trans hF
          refine lv_iload hx hb d_m_kind_41 (lv_at hl 5 rfl) ?_
          refine lv_iconst (v := 0) hx hb d_m_kind_43 (by decide) ?_
          refine lv_sipush (v := 5000) hx hb d_m_kind_44 (by decide) ?_
          obtain ⟨v9, z9, hc9, hF⟩ := f_bd_some hF
          refine hw_SR (As := [.int a5, .int 0, .int 5000]) (rest := []) hx hb hml hown hts (c_m_within_ok l hl0 hLi a5 0 5000  _ _ _ hc9) st_m_63 hK hZ hsz hS hW rfl hl.1 (Nat.le_of_ble_eq_true rfl) d_m_kind_47 (by omega) (by omega) (by omega) (by omega) (fun H locs hW hS => ?_)
          refine lv_if_eq (tgt := 87) hx hb d_m_kind_50 (by decide) (fun h10 => ?_) (fun h10 => ?_)
          · replace hF := (if_pos h10).symm.trans hF
            exact B87 a1 a2 a3 a4 a5 a6 a7 z9 hF _ _ _ _ _ hW hS (lv_sub hl [0, 1, 2, 3, 4, 5, 6, 7] rfl) (by omega) (by omega)
          · replace hF := (if_neg h10).symm.trans hF
            refine lv_iload hx hb d_m_kind_53 (lv_at hl 6 rfl) ?_
            refine lv_iconst (v := 0) hx hb d_m_kind_55 (by decide) ?_
            refine lv_sipush (v := 5000) hx hb d_m_kind_56 (by decide) ?_
            obtain ⟨v11, z11, hc11, hF⟩ := f_bd_some hF
            refine hw_SR (As := [.int a6, .int 0, .int 5000]) (rest := []) hx hb hml hown hts (c_m_within_ok l hl0 hLi a6 0 5000  _ _ _ hc11) st_m_63 hK hZ hsz hS hW rfl hl.1 (Nat.le_of_ble_eq_true rfl) d_m_kind_59 (by omega) (by omega) (by omega) (by omega) (fun H locs hW hS => ?_)
            refine lv_if_eq (tgt := 87) hx hb d_m_kind_62 (by decide) (fun h12 => ?_) (fun h12 => ?_)
            · replace hF := (if_pos h12).symm.trans hF
              exact B87 a1 a2 a3 a4 a5 a6 a7 z11 hF _ _ _ _ _ hW hS (lv_sub hl [0, 1, 2, 3, 4, 5, 6, 7] rfl) (by omega) (by omega)
            · replace hF := (if_neg h12).symm.trans hF
              refine lv_iload hx hb d_m_kind_65 (lv_at hl 5 rfl) ?_
              refine lv_iload hx hb d_m_kind_67 (lv_at hl 6 rfl) ?_
              refine lv_icmp_gt (tgt := 87) hx hb d_m_kind_69 (by decide) (fun h13 => ?_) (fun h13 => ?_)
              · replace hF := (if_pos h13).symm.trans hF
                exact B87 a1 a2 a3 a4 a5 a6 a7 z11 hF _ _ _ _ _ hW hS (lv_sub hl [0, 1, 2, 3, 4, 5, 6, 7] rfl) (by omega) (by omega)
              · replace hF := (if_neg h13).symm.trans hF
                refine lv_iload hx hb d_m_kind_72 (lv_at hl 7 rfl) ?_
                refine lv_iconst (v := 0) hx hb d_m_kind_74 (by decide) ?_
                refine lv_bipush (v := 7) hx hb d_m_kind_75 (by decide) ?_
                obtain ⟨v14, z14, hc14, hF⟩ := f_bd_some hF
                refine hw_SR (As := [.int a7, .int 0, .int 7]) (rest := []) hx hb hml hown hts (c_m_within_ok l hl0 hLi a7 0 7  _ _ _ hc14) st_m_63 hK hZ hsz hS hW rfl hl.1 (Nat.le_of_ble_eq_true rfl) d_m_kind_77 (by omega) (by omega) (by omega) (by omega) (fun H locs hW hS => ?_)
                refine lv_if_eq (tgt := 87) hx hb d_m_kind_80 (by decide) (fun h15 => ?_) (fun h15 => ?_)
                · replace hF := (if_pos h15).symm.trans hF
                  exact B87 a1 a2 a3 a4 a5 a6 a7 z14 hF _ _ _ _ _ hW hS (lv_sub hl [0, 1, 2, 3, 4, 5, 6, 7] rfl) (by omega) (by omega)
                · replace hF := (if_neg h15).symm.trans hF
                  refine lv_iconst (v := 1) hx hb d_m_kind_83 (by decide) ?_
                  refine lv_goto (tgt := 88) hx hb d_m_kind_84 (by decide) ?_
                  exact B88 a1 a2 a3 a4 a5 a6 a7 1 z14 hF _ _ _ _ _ hW hS (lv_sub hl [0, 1, 2, 3, 4, 5, 6, 7] rfl) (by omega) (by omega)
