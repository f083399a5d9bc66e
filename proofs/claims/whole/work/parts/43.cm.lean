/-! contracts: the method does what its pure function says -/
set_option maxRecDepth 100000 in
set_option maxHeartbeats 4000000 in
theorem c_m_pay_ok (l : Launch) (hl0 : l.stackTraces = false) {L : Nat → Nat → Nat} {Ar : Nat → ClassId} {D : va_G} {b0 : Nat} (hLi : f_L L b0) (a1 : Int32)  (z : fST) (r : Unit) (z' : fST) (hF : F_m_pay a1 z = some (r, z')) : f_C l y_m_pay wt 2 0 L Ar D b0 [.ref (L 30 0), .int a1] z (.inl none) z' := by
  refine f_ofW (cc := c_m_pay) (maxL := 3) (ret := (Option.none : Option Jvm.ClassFile.FieldType)) (by decide) w_m_pay (Nat.le_of_ble_eq_true rfl) ?_
  intro p e s m args below meth c R hRf hRl hRc hRs hx hb hr hlk hml hno hts hown hK hZ hsz
  intro H locs ls cells slots hW hS hl hc hs
  have hl : lv_has ls 3 [(0, .ref (L 30 0)), (1, .int a1)] := hl
  unfold F_m_pay at hF
  refine lv_aload_n hx hb d_m_pay_0 rfl (lv_at hl 0 rfl) ?_
  obtain ⟨v1, z1, hc1, hF⟩ := f_bd_some hF
  refine hw_VR (k := 30) (i := 0) (nk := 1) (As := []) (rest := []) hx hb hml hown hts (c_m_writes_ok l hl0 hLi   _ _ _ hc1) st_m_107 (by decide) rfl (by omega) rfl rfl hK hZ hsz hS hW rfl hl.1 (Nat.le_of_ble_eq_true rfl) d_m_pay_1 (by omega) (by omega) (by omega) (by omega) (fun H locs hW hS => ?_)
  refine lv_if_ne (tgt := 8) hx hb d_m_pay_4 (by decide) (fun h2 => ?_) (fun h2 => ?_)
  · replace hF := (if_neg h2).symm.trans hF
    refine lv_aload_n hx hb d_m_pay_8 rfl (lv_at hl 0 rfl) ?_
    refine hw_get (k := 30) (i := 0) (n := 1) (j := 2) (v := .ref (L 33 0)) hx hb hts hown hK hW fl_m_16 rfl (by omega) rfl d_m_pay_9 ?_
    refine lv_bipush (v := 6) hx hb d_m_pay_12 (by decide) ?_
    refine lv_aload_n hx hb d_m_pay_14 rfl (lv_at hl 0 rfl) ?_
    refine lv_iload_n hx hb d_m_pay_15 rfl (lv_at hl 1 rfl) ?_
    refine lv_iconst (v := 4) hx hb d_m_pay_16 (by decide) ?_
    obtain ⟨v3, z3, hc3, hF⟩ := f_bd_some hF
    refine hw_VR (k := 30) (i := 0) (nk := 1) (As := [.int a1, .int 4]) (rest := [.int 6, .ref (L 33 0)]) hx hb hml hown hts (c_m_get_ok l hl0 hLi a1 4  _ _ _ hc3) st_m_48 (by decide) rfl (by omega) rfl rfl hK hZ hsz hS hW rfl hl.1 (Nat.le_of_ble_eq_true rfl) d_m_pay_17 (by omega) (by omega) (by omega) (by omega) (fun H locs hW hS => ?_)
    refine lv_imul hx hb d_m_pay_20 ?_
    refine lv_iconst (v := 1) hx hb d_m_pay_21 (by decide) ?_
    refine lv_iadd hx hb d_m_pay_22 ?_
    obtain ⟨g4, hF⟩ := f_gd_some hF
    refine hw_iald (k := 33) (i := 0) (n := 1) hx hb hK hW (by decide) rfl (by omega) rfl g4 d_m_pay_23 ?_
    refine lv_istore_n (lv' := [(2, .int (f_gI z3 33 0 (f_ix ((6 * v3) + 1)))), (0, .ref (L 30 0)), (1, .int a1)]) hx hb d_m_pay_24 rfl hl (by decide) rfl (fun ls hl => ?_)
    refine lv_aload_n hx hb d_m_pay_25 rfl (lv_at hl 1 rfl) ?_
    refine lv_iload_n hx hb d_m_pay_26 rfl (lv_at hl 2 rfl) ?_
    refine lv_iconst (v := 5) hx hb d_m_pay_27 (by decide) ?_
    refine lv_iconst (v := 1) hx hb d_m_pay_28 (by decide) ?_
    obtain ⟨v5, z5, hc5, hF⟩ := f_bd_some hF
    refine hw_VR (k := 30) (i := 0) (nk := 1) (As := [.int a1, .int 5, .int 1]) (rest := []) hx hb hml hown hts (c_m_put_ok l hl0 hLi a1 5 1  _ _ _ hc5) st_m_78 (by decide) rfl (by omega) rfl rfl hK hZ hsz hS hW rfl hl.1 (Nat.le_of_ble_eq_true rfl) d_m_pay_29 (by omega) (by omega) (by omega) (by omega) (fun H locs hW hS => ?_)
    refine lv_aload_n hx hb d_m_pay_32 rfl (lv_at hl 1 rfl) ?_
    refine lv_dup hx hb d_m_pay_33 rfl ?_
    refine hw_get (k := 30) (i := 0) (n := 1) (j := 8) (v := .int (f_gI z5 30 0 8)) hx hb hts hown hK hW fl_m_110 rfl (by omega) rfl d_m_pay_34 ?_
    refine lv_iload_n hx hb d_m_pay_37 rfl (lv_at hl 0 rfl) ?_
    refine lv_iadd hx hb d_m_pay_38 ?_
    refine hw_put (k := 30) (i := 0) (n := 1) (j := 8) (v := (f_gI z5 30 0 8) + (f_gI z3 33 0 (f_ix ((6 * v3) + 1)))) hx hb hts hown hK hLi hW hS fp_m_110 (vp_nar_int _) rfl rfl (by omega) d_m_pay_39 (fun H locs hW hS => ?_)
    refine lv_aload_n hx hb d_m_pay_42 rfl (lv_at hl 1 rfl) ?_
    refine lv_dup hx hb d_m_pay_43 rfl ?_
    refine hw_get (k := 30) (i := 0) (n := 1) (j := 21) (v := .int (f_gI (f_pI z5 30 0 8 ((f_gI z5 30 0 8) + (f_gI z3 33 0 (f_ix ((6 * v3) + 1))))) 30 0 21)) hx hb hts hown hK hW fl_m_113 rfl (by omega) rfl d_m_pay_44 ?_
    refine lv_iconst (v := 1) hx hb d_m_pay_47 (by decide) ?_
    refine lv_iadd hx hb d_m_pay_48 ?_
    refine hw_put (k := 30) (i := 0) (n := 1) (j := 21) (v := (f_gI (f_pI z5 30 0 8 ((f_gI z5 30 0 8) + (f_gI z3 33 0 (f_ix ((6 * v3) + 1))))) 30 0 21) + 1) hx hb hts hown hK hLi hW hS fp_m_113 (vp_nar_int _) rfl rfl (by omega) d_m_pay_49 (fun H locs hW hS => ?_)
    refine lv_aload_n hx hb d_m_pay_52 rfl (lv_at hl 1 rfl) ?_
    refine lv_dup hx hb d_m_pay_53 rfl ?_
    refine hw_get (k := 30) (i := 0) (n := 1) (j := 22) (v := .int (f_gI (f_pI (f_pI z5 30 0 8 ((f_gI z5 30 0 8) + (f_gI z3 33 0 (f_ix ((6 * v3) + 1))))) 30 0 21 ((f_gI (f_pI z5 30 0 8 ((f_gI z5 30 0 8) + (f_gI z3 33 0 (f_ix ((6 * v3) + 1))))) 30 0 21) + 1)) 30 0 22)) hx hb hts hown hK hW fl_m_116 rfl (by omega) rfl d_m_pay_54 ?_
    refine lv_iload_n hx hb d_m_pay_57 rfl (lv_at hl 0 rfl) ?_
    refine lv_iadd hx hb d_m_pay_58 ?_
    refine hw_put (k := 30) (i := 0) (n := 1) (j := 22) (v := (f_gI (f_pI (f_pI z5 30 0 8 ((f_gI z5 30 0 8) + (f_gI z3 33 0 (f_ix ((6 * v3) + 1))))) 30 0 21 ((f_gI (f_pI z5 30 0 8 ((f_gI z5 30 0 8) + (f_gI z3 33 0 (f_ix ((6 * v3) + 1))))) 30 0 21) + 1)) 30 0 22) + (f_gI z3 33 0 (f_ix ((6 * v3) + 1)))) hx hb hts hown hK hLi hW hS fp_m_116 (vp_nar_int _) rfl rfl (by omega) d_m_pay_59 (fun H locs hW hS => ?_)
    exact hw_vret hx hb hr hlk hW hS (by omega) (by omega) d_m_pay_62 hF
  · replace hF := (if_pos h2).symm.trans hF
    exact hw_vret hx hb hr hlk hW hS (by omega) (by omega) d_m_pay_7 hF
set_option maxRecDepth 100000 in
set_option maxHeartbeats 4000000 in
theorem c_m_drop_ok (l : Launch) (hl0 : l.stackTraces = false) {L : Nat → Nat → Nat} {Ar : Nat → ClassId} {D : va_G} {b0 : Nat} (hLi : f_L L b0) (a1 : Int32)  (z : fST) (r : Int32) (z' : fST) (hF : F_m_drop a1 z = some (r, z')) : f_C l y_m_drop wt 2 0 L Ar D b0 [.ref (L 30 0), .int a1] z (.inl (some (.int r))) z' := by
  refine f_ofW (cc := c_m_drop) (maxL := 2) (ret := (some FieldType.boolean)) (by decide) w_m_drop (Nat.le_of_ble_eq_true rfl) ?_
  intro p e s m args below meth c R hRf hRl hRc hRs hx hb hr hlk hml hno hts hown hK hZ hsz
  intro H locs ls cells slots hW hS hl hc hs
  have hl : lv_has ls 2 [(0, .ref (L 30 0)), (1, .int a1)] := hl
  unfold F_m_drop at hF
  refine lv_aload_n hx hb d_m_drop_0 rfl (lv_at hl 0 rfl) ?_
  obtain ⟨v1, z1, hc1, hF⟩ := f_bd_some hF
  refine hw_VR (k := 30) (i := 0) (nk := 1) (As := []) (rest := []) hx hb hml hown hts (c_m_writes_ok l hl0 hLi   _ _ _ hc1) st_m_107 (by decide) rfl (by omega) rfl rfl hK hZ hsz hS hW rfl hl.1 (Nat.le_of_ble_eq_true rfl) d_m_drop_1 (by omega) (by omega) (by omega) (by omega) (fun H locs hW hS => ?_)
  refine lv_if_ne (tgt := 9) hx hb d_m_drop_4 (by decide) (fun h2 => ?_) (fun h2 => ?_)
  · replace hF := (if_neg h2).symm.trans hF
    refine lv_aload_n hx hb d_m_drop_9 rfl (lv_at hl 0 rfl) ?_
    refine hw_get (k := 30) (i := 0) (n := 1) (j := 6) (v := .ref (L 35 0)) hx hb hts hown hK hW fl_m_22 rfl (by omega) rfl d_m_drop_10 ?_
    refine lv_aload_n hx hb d_m_drop_13 rfl (lv_at hl 0 rfl) ?_
    refine hw_get (k := 30) (i := 0) (n := 1) (j := 2) (v := .ref (L 33 0)) hx hb hts hown hK hW fl_m_16 rfl (by omega) rfl d_m_drop_14 ?_
    refine lv_bipush (v := 6) hx hb d_m_drop_17 (by decide) ?_
    refine lv_aload_n hx hb d_m_drop_19 rfl (lv_at hl 0 rfl) ?_
    refine lv_iload_n hx hb d_m_drop_20 rfl (lv_at hl 1 rfl) ?_
    refine lv_iconst (v := 4) hx hb d_m_drop_21 (by decide) ?_
    obtain ⟨v3, z3, hc3, hF⟩ := f_bd_some hF
    refine hw_VR (k := 30) (i := 0) (nk := 1) (As := [.int a1, .int 4]) (rest := [.int 6, .ref (L 33 0), .ref (L 35 0)]) hx hb hml hown hts (c_m_get_ok l hl0 hLi a1 4  _ _ _ hc3) st_m_48 (by decide) rfl (by omega) rfl rfl hK hZ hsz hS hW rfl hl.1 (Nat.le_of_ble_eq_true rfl) d_m_drop_22 (by omega) (by omega) (by omega) (by omega) (fun H locs hW hS => ?_)
    refine lv_imul hx hb d_m_drop_25 ?_
    refine lv_iconst (v := 2) hx hb d_m_drop_26 (by decide) ?_
    refine lv_iadd hx hb d_m_drop_27 ?_
    obtain ⟨g4, hF⟩ := f_gd_some hF
    refine hw_iald (k := 33) (i := 0) (n := 1) hx hb hK hW (by decide) rfl (by omega) rfl g4 d_m_drop_28 ?_
    refine lv_dup2_11 hx hb d_m_drop_29 rfl rfl ?_
    obtain ⟨g5, hF⟩ := f_gd_some hF
    refine hw_iald (k := 35) (i := 0) (n := 1) hx hb hK hW (by decide) rfl (by omega) rfl g5 d_m_drop_30 ?_
    refine lv_iconst (v := 1) hx hb d_m_drop_31 (by decide) ?_
    refine lv_iadd hx hb d_m_drop_32 ?_
    obtain ⟨g6, hF⟩ := f_gd_some hF
    refine hw_iast (k := 35) (i := 0) (n := 1) hx hb hK hLi hW hS (by decide) rfl (by omega) rfl g6 d_m_drop_33 (fun H locs hW hS => ?_)
    refine lv_aload_n hx hb d_m_drop_34 rfl (lv_at hl 0 rfl) ?_
    refine lv_iconst (v := 0) hx hb d_m_drop_35 (by decide) ?_
    refine hw_put (k := 30) (i := 0) (n := 1) (j := 16) (v := 0) hx hb hts hown hK hLi hW hS fp_m_91 (vp_nar_int _) rfl rfl (by omega) d_m_drop_36 (fun H locs hW hS => ?_)
    refine lv_aload_n hx hb d_m_drop_39 rfl (lv_at hl 0 rfl) ?_
    refine lv_iload_n hx hb d_m_drop_40 rfl (lv_at hl 1 rfl) ?_
    obtain ⟨v7, z7, hc7, hF⟩ := f_bd_some hF
    refine hw_VR (k := 30) (i := 0) (nk := 1) (As := [.int a1]) (rest := []) hx hb hml hown hts (c_m_remove_ok l hl0 hLi a1  _ _ _ hc7) st_m_119 (by decide) rfl (by omega) rfl rfl hK hZ hsz hS hW rfl hl.1 (Nat.le_of_ble_eq_true rfl) d_m_drop_41 (by omega) (by omega) (by omega) (by omega) (fun H locs hW hS => ?_)
    refine lv_iconst (v := 1) hx hb d_m_drop_44 (by decide) ?_
    exact hw_iret hx hb hr hlk (f_nZ (Or.inr rfl)) hW hS (by omega) (by omega) d_m_drop_45 hF
  · replace hF := (if_pos h2).symm.trans hF
    refine lv_iconst (v := 0) hx hb d_m_drop_7 (by decide) ?_
    exact hw_iret hx hb hr hlk (f_nZ (Or.inl rfl)) hW hS (by omega) (by omega) d_m_drop_8 hF
set_option maxRecDepth 100000 in
set_option maxHeartbeats 4000000 in
theorem c_m_forward_ok (l : Launch) (hl0 : l.stackTraces = false) {L : Nat → Nat → Nat} {Ar : Nat → ClassId} {D : va_G} {b0 : Nat} (hLi : f_L L b0) (a1 : Int32)  (z : fST) (r : Int32) (z' : fST) (hF : F_m_forward a1 z = some (r, z')) : f_C l y_m_forward wt 4 0 L Ar D b0 [.ref (L 30 0), .int a1] z (.inl (some (.int r))) z' := by
  refine f_ofW (cc := c_m_forward) (maxL := 5) (ret := (some FieldType.int)) (by decide) w_m_forward (Nat.le_of_ble_eq_true rfl) ?_
  intro p e s m args below meth c R hRf hRl hRc hRs hx hb hr hlk hml hno hts hown hK hZ hsz
  have B190 : ∀ (k40 : Int32 × Int32 × fST → Option (Int32 × fST)) (K40 : ∀ (x1 : Int32) (x2 : Int32) (z : fST), k40 (x1, x2, z) = some (r, z') →  f_B p l e R s m args below meth c L Ar D b0 5 0 (f_E below args s L Ar D b0 0 (.inl (some (.int r))) z') 0 40 [(0, .ref (L 30 0)), (1, .int x1), (2, .int x2)] [] z) (x1 : Int32) (x2 : Int32) (z : fST), b_m_forward_190 k40 x1 x2 z = some (r, z') →  f_B p l e R s m args below meth c L Ar D b0 5 0 (f_E below args s L Ar D b0 0 (.inl (some (.int r))) z') 0 190 [(0, .ref (L 30 0)), (1, .int x1), (2, .int x2)] [] z := by
    intro k40 K40 x1 x2 z hF  H locs ls cells slots hW hS hl hc hs
    unfold b_m_forward_190 at hF
    refine lv_goto (tgt := 40) hx hb d_m_forward_190 (by decide) ?_
    exact K40 x1 x2 z hF _ _ _ _ _ hW hS (lv_sub hl [0, 1, 2] rfl) (by omega) (by omega)
  have B185 : ∀ (k40 : Int32 × Int32 × fST → Option (Int32 × fST)) (K40 : ∀ (x1 : Int32) (x2 : Int32) (z : fST), k40 (x1, x2, z) = some (r, z') →  f_B p l e R s m args below meth c L Ar D b0 5 0 (f_E below args s L Ar D b0 0 (.inl (some (.int r))) z') 0 40 [(0, .ref (L 30 0)), (1, .int x1), (2, .int x2)] [] z) (k94 : Int32 × Int32 × Int32 × fST → Option (Int32 × fST)) (K94 : ∀ (x1 : Int32) (x2 : Int32) (x3 : Int32) (z : fST), k94 (x1, x2, x3, z) = some (r, z') →  f_B p l e R s m args below meth c L Ar D b0 5 0 (f_E below args s L Ar D b0 0 (.inl (some (.int r))) z') 0 94 [(0, .ref (L 30 0)), (1, .int x1), (2, .int x2), (3, .int x3)] [] z) (x1 : Int32) (x2 : Int32) (y0 : Int32) (y1 : Int32) (z : fST), b_m_forward_185 k40 k94 x1 x2 y0 y1 z = some (r, z') →  f_B p l e R s m args below meth c L Ar D b0 5 0 (f_E below args s L Ar D b0 0 (.inl (some (.int r))) z') 0 185 [(0, .ref (L 30 0)), (1, .int x1), (2, .int x2)] [.int y1, .int y0] z := by
    intro k40 K40 k94 K94 x1 x2 y0 y1 z hF  H locs ls cells slots hW hS hl hc hs
    unfold b_m_forward_185 at hF
    refine lv_iadd hx hb d_m_forward_185 ?_
    refine lv_istore_n (lv' := [(3, .int (y0 + y1)), (0, .ref (L 30 0)), (1, .int x1), (2, .int x2)]) hx hb d_m_forward_186 rfl hl (by decide) rfl (fun ls hl => ?_)
    refine lv_goto (tgt := 94) hx hb d_m_forward_187 (by decide) ?_
    exact K94 x1 x2 (y0 + y1) z hF _ _ _ _ _ hW hS (lv_sub hl [1, 2, 3, 0] rfl) (by omega) (by omega)
  have B174 : ∀ (k40 : Int32 × Int32 × fST → Option (Int32 × fST)) (K40 : ∀ (x1 : Int32) (x2 : Int32) (z : fST), k40 (x1, x2, z) = some (r, z') →  f_B p l e R s m args below meth c L Ar D b0 5 0 (f_E below args s L Ar D b0 0 (.inl (some (.int r))) z') 0 40 [(0, .ref (L 30 0)), (1, .int x1), (2, .int x2)] [] z) (k94 : Int32 × Int32 × Int32 × fST → Option (Int32 × fST)) (K94 : ∀ (x1 : Int32) (x2 : Int32) (x3 : Int32) (z : fST), k94 (x1, x2, x3, z) = some (r, z') →  f_B p l e R s m args below meth c L Ar D b0 5 0 (f_E below args s L Ar D b0 0 (.inl (some (.int r))) z') 0 94 [(0, .ref (L 30 0)), (1, .int x1), (2, .int x2), (3, .int x3)] [] z) (x1 : Int32) (x2 : Int32) (x3 : Int32) (x4 : Int32) (z : fST), b_m_forward_174 k40 k94 x1 x2 x3 x4 z = some (r, z') →  f_B p l e R s m args below meth c L Ar D b0 5 0 (f_E below args s L Ar D b0 0 (.inl (some (.int r))) z') 0 174 [(0, .ref (L 30 0)), (1, .int x1), (2, .int x2), (3, .int x3), (4, .int x4)] [] z := by
    intro k40 K40 k94 K94 x1 x2 x3 x4 z hF  H locs ls cells slots hW hS hl hc hs
    unfold b_m_forward_174 at hF
    refine lv_iload_n hx hb d_m_forward_174 rfl (lv_at hl 3 rfl) ?_
    refine lv_iload hx hb d_m_forward_175 (lv_at hl 4 rfl) ?_
    refine lv_if_eq (tgt := 184) hx hb d_m_forward_177 (by decide) (fun h27 => ?_) (fun h27 => ?_)
    · replace hF := (if_pos h27).symm.trans hF
      refine lv_iconst (v := 1) hx hb d_m_forward_184 (by decide) ?_
      exact B185 k40 K40 k94 K94 x1 x2 x3 1 z hF _ _ _ _ _ hW hS (lv_sub hl [0, 1, 2] rfl) (by omega) (by omega)
    · replace hF := (if_neg h27).symm.trans hF
      refine lv_iconst (v := 0) hx hb d_m_forward_180 (by decide) ?_
      refine lv_goto (tgt := 185) hx hb d_m_forward_181 (by decide) ?_
      exact B185 k40 K40 k94 K94 x1 x2 x3 0 z hF _ _ _ _ _ hW hS (lv_sub hl [0, 1, 2] rfl) (by omega) (by omega)
  have B150 : ∀ (k40 : Int32 × Int32 × fST → Option (Int32 × fST)) (K40 : ∀ (x1 : Int32) (x2 : Int32) (z : fST), k40 (x1, x2, z) = some (r, z') →  f_B p l e R s m args below meth c L Ar D b0 5 0 (f_E below args s L Ar D b0 0 (.inl (some (.int r))) z') 0 40 [(0, .ref (L 30 0)), (1, .int x1), (2, .int x2)] [] z) (k94 : Int32 × Int32 × Int32 × fST → Option (Int32 × fST)) (K94 : ∀ (x1 : Int32) (x2 : Int32) (x3 : Int32) (z : fST), k94 (x1, x2, x3, z) = some (r, z') →  f_B p l e R s m args below meth c L Ar D b0 5 0 (f_E below args s L Ar D b0 0 (.inl (some (.int r))) z') 0 94 [(0, .ref (L 30 0)), (1, .int x1), (2, .int x2), (3, .int x3)] [] z) (x1 : Int32) (x2 : Int32) (x3 : Int32) (x4 : Int32) (z : fST), b_m_forward_150 k40 k94 x1 x2 x3 x4 z = some (r, z') →  f_B p l e R s m args below meth c L Ar D b0 5 0 (f_E below args s L Ar D b0 0 (.inl (some (.int r))) z') 0 150 [(0, .ref (L 30 0)), (1, .int x1), (2, .int x2), (3, .int x3), (4, .int x4)] [] z := by
    intro k40 K40 k94 K94 x1 x2 x3 x4 z hF  H locs ls cells slots hW hS hl hc hs
    unfold b_m_forward_150 at hF
    refine lv_aload_n hx hb d_m_forward_150 rfl (lv_at hl 0 rfl) ?_
    refine hw_get (k := 30) (i := 0) (n := 1) (j := 17) (v := .int (f_gI z 30 0 17)) hx hb hts hown hK hW fl_m_55 rfl (by omega) rfl d_m_forward_151 ?_
    refine lv_if_ne (tgt := 174) hx hb d_m_forward_154 (by decide) (fun h23 => ?_) (fun h23 => ?_)
    · replace hF := (if_neg h23).symm.trans hF
      exact B174 k40 K40 k94 K94 x1 x2 x3 x4 z hF _ _ _ _ _ hW hS (lv_sub hl [0, 1, 2, 3, 4] rfl) (by omega) (by omega)
    · replace hF := (if_pos h23).symm.trans hF
      refine lv_aload_n hx hb d_m_forward_157 rfl (lv_at hl 0 rfl) ?_
      refine lv_iload_n hx hb d_m_forward_158 rfl (lv_at hl 3 rfl) ?_
      obtain ⟨v24, z24, hc24, hF⟩ := f_bd_some hF
      refine hw_VR (k := 30) (i := 0) (nk := 1) (As := [.int x3]) (rest := []) hx hb hml hown hts (c_m_rear_ok l hl0 hLi x3  _ _ _ hc24) st_m_72 (by decide) rfl (by omega) rfl rfl hK hZ hsz hS hW rfl hl.1 (Nat.le_of_ble_eq_true rfl) d_m_forward_159 (by omega) (by omega) (by omega) (by omega) (fun H locs hW hS => ?_)
      refine lv_bipush (v := 110) hx hb d_m_forward_162 (by decide) ?_
      refine lv_icmp_ne (tgt := 174) hx hb d_m_forward_164 (by decide) (fun h25 => ?_) (fun h25 => ?_)
      · replace hF := (if_neg h25).symm.trans hF
        exact B174 k40 K40 k94 K94 x1 x2 x3 x4 z24 hF _ _ _ _ _ hW hS (lv_sub hl [0, 1, 2, 3, 4] rfl) (by omega) (by omega)
      · replace hF := (if_pos h25).symm.trans hF
        refine lv_aload_n hx hb d_m_forward_167 rfl (lv_at hl 0 rfl) ?_
        refine lv_iload_n hx hb d_m_forward_168 rfl (lv_at hl 3 rfl) ?_
        obtain ⟨v26, z26, hc26, hF⟩ := f_bd_some hF
        refine hw_VR (k := 30) (i := 0) (nk := 1) (As := [.int x3]) (rest := []) hx hb hml hown hts (c_m_drop_ok l hl0 hLi x3  _ _ _ hc26) st_m_132 (by decide) rfl (by omega) rfl rfl hK hZ hsz hS hW rfl hl.1 (Nat.le_of_ble_eq_true rfl) d_m_forward_169 (by omega) (by omega) (by omega) (by omega) (fun H locs hW hS => ?_)
        refine lv_istore (lv' := [(4, .int v26), (0, .ref (L 30 0)), (1, .int x1), (2, .int x2), (3, .int x3)]) hx hb d_m_forward_172 hl (by decide) rfl (fun ls hl => ?_)
        exact B174 k40 K40 k94 K94 x1 x2 x3 v26 z26 hF _ _ _ _ _ hW hS (lv_sub hl [1, 2, 3, 4, 0] rfl) (by omega) (by omega)
  have B127 : ∀ (k40 : Int32 × Int32 × fST → Option (Int32 × fST)) (K40 : ∀ (x1 : Int32) (x2 : Int32) (z : fST), k40 (x1, x2, z) = some (r, z') →  f_B p l e R s m args below meth c L Ar D b0 5 0 (f_E below args s L Ar D b0 0 (.inl (some (.int r))) z') 0 40 [(0, .ref (L 30 0)), (1, .int x1), (2, .int x2)] [] z) (k94 : Int32 × Int32 × Int32 × fST → Option (Int32 × fST)) (K94 : ∀ (x1 : Int32) (x2 : Int32) (x3 : Int32) (z : fST), k94 (x1, x2, x3, z) = some (r, z') →  f_B p l e R s m args below meth c L Ar D b0 5 0 (f_E below args s L Ar D b0 0 (.inl (some (.int r))) z') 0 94 [(0, .ref (L 30 0)), (1, .int x1), (2, .int x2), (3, .int x3)] [] z) (x1 : Int32) (x2 : Int32) (x3 : Int32) (x4 : Int32) (z : fST), b_m_forward_127 k40 k94 x1 x2 x3 x4 z = some (r, z') →  f_B p l e R s m args below meth c L Ar D b0 5 0 (f_E below args s L Ar D b0 0 (.inl (some (.int r))) z') 0 127 [(0, .ref (L 30 0)), (1, .int x1), (2, .int x2), (3, .int x3), (4, .int x4)] [] z := by
    intro k40 K40 k94 K94 x1 x2 x3 x4 z hF  H locs ls cells slots hW hS hl hc hs
    unfold b_m_forward_127 at hF
    refine lv_aload_n hx hb d_m_forward_127 rfl (lv_at hl 0 rfl) ?_
    refine hw_get (k := 30) (i := 0) (n := 1) (j := 17) (v := .int (f_gI z 30 0 17)) hx hb hts hown hK hW fl_m_55 rfl (by omega) rfl d_m_forward_128 ?_
    refine lv_if_ne (tgt := 150) hx hb d_m_forward_131 (by decide) (fun h19 => ?_) (fun h19 => ?_)
    · replace hF := (if_neg h19).symm.trans hF
      exact B150 k40 K40 k94 K94 x1 x2 x3 x4 z hF _ _ _ _ _ hW hS (lv_sub hl [0, 1, 2, 3, 4] rfl) (by omega) (by omega)
    · replace hF := (if_pos h19).symm.trans hF
      refine lv_aload_n hx hb d_m_forward_134 rfl (lv_at hl 0 rfl) ?_
      refine lv_iload_n hx hb d_m_forward_135 rfl (lv_at hl 3 rfl) ?_
      refine lv_iconst (v := 2) hx hb d_m_forward_136 (by decide) ?_
      obtain ⟨v20, z20, hc20, hF⟩ := f_bd_some hF
      refine hw_VR (k := 30) (i := 0) (nk := 1) (As := [.int x3, .int 2]) (rest := []) hx hb hml hown hts (c_m_get_ok l hl0 hLi x3 2  _ _ _ hc20) st_m_48 (by decide) rfl (by omega) rfl rfl hK hZ hsz hS hW rfl hl.1 (Nat.le_of_ble_eq_true rfl) d_m_forward_137 (by omega) (by omega) (by omega) (by omega) (fun H locs hW hS => ?_)
      refine lv_bipush (v := 105) hx hb d_m_forward_140 (by decide) ?_
      refine lv_icmp_ne (tgt := 150) hx hb d_m_forward_142 (by decide) (fun h21 => ?_) (fun h21 => ?_)
      · replace hF := (if_neg h21).symm.trans hF
        exact B150 k40 K40 k94 K94 x1 x2 x3 x4 z20 hF _ _ _ _ _ hW hS (lv_sub hl [0, 1, 2, 3, 4] rfl) (by omega) (by omega)
      · replace hF := (if_pos h21).symm.trans hF
        refine lv_aload_n hx hb d_m_forward_145 rfl (lv_at hl 0 rfl) ?_
        refine lv_iload_n hx hb d_m_forward_146 rfl (lv_at hl 3 rfl) ?_
        obtain ⟨v22, z22, hc22, hF⟩ := f_bd_some hF
        refine hw_VR (k := 30) (i := 0) (nk := 1) (As := [.int x3]) (rest := []) hx hb hml hown hts (c_m_pay_ok l hl0 hLi x3  _ _ _ hc22) st_m_129 (by decide) rfl (by omega) rfl rfl hK hZ hsz hS hW rfl hl.1 (Nat.le_of_ble_eq_true rfl) d_m_forward_147 (by omega) (by omega) (by omega) (by omega) (fun H locs hW hS => ?_)
        exact B150 k40 K40 k94 K94 x1 x2 x3 x4 z22 hF _ _ _ _ _ hW hS (lv_sub hl [0, 1, 2, 3, 4] rfl) (by omega) (by omega)
  have B94 : ∀ (k40 : Int32 × Int32 × fST → Option (Int32 × fST)) (K40 : ∀ (x1 : Int32) (x2 : Int32) (z : fST), k40 (x1, x2, z) = some (r, z') →  f_B p l e R s m args below meth c L Ar D b0 5 0 (f_E below args s L Ar D b0 0 (.inl (some (.int r))) z') 0 40 [(0, .ref (L 30 0)), (1, .int x1), (2, .int x2)] [] z) (n : Nat) (x1 : Int32) (x2 : Int32) (x3 : Int32) (z : fST), f_it (b_m_forward_94 k40) n (x1, x2, x3, z) = some (r, z') →  f_B p l e R s m args below meth c L Ar D b0 5 0 (f_E below args s L Ar D b0 0 (.inl (some (.int r))) z') 0 94 [(0, .ref (L 30 0)), (1, .int x1), (2, .int x2), (3, .int x3)] [] z := by
    intro k40 K40 n
    induction n with
    | zero => intro x1 x2 x3 z hF; cases hF
    | succ n ih =>
    intro x1 x2 x3 z hF  H locs ls cells slots hW hS hl hc hs
    replace hF := f_it_s hF
    have K94 : ∀ (x1 : Int32) (x2 : Int32) (x3 : Int32) (z : fST), f_it (b_m_forward_94 k40) n (x1, x2, x3, z) = some (r, z') →  f_B p l e R s m args below meth c L Ar D b0 5 0 (f_E below args s L Ar D b0 0 (.inl (some (.int r))) z') 0 94 [(0, .ref (L 30 0)), (1, .int x1), (2, .int x2), (3, .int x3)] [] z := fun x1 x2 x3 z hF => ih x1 x2 x3 z hF
    generalize f_it (b_m_forward_94 k40) n = k94 at hF K94
    unfold b_m_forward_94 at hF
    dsimp only at hF
    refine lv_iload_n hx hb d_m_forward_94 rfl (lv_at hl 3 rfl) ?_
    refine lv_aload_n hx hb d_m_forward_95 rfl (lv_at hl 0 rfl) ?_
    refine hw_get (k := 30) (i := 0) (n := 1) (j := 4) (v := .int (f_gI z 30 0 4)) hx hb hts hown hK hW fl_m_52 rfl (by omega) rfl d_m_forward_96 ?_
    refine lv_icmp_ge (tgt := 190) hx hb d_m_forward_99 (by decide) (fun h14 => ?_) (fun h14 => ?_)
    · replace hF := (if_pos h14).symm.trans hF
      exact B190 k40 K40 x1 x2 z hF _ _ _ _ _ hW hS (lv_sub hl [0, 1, 2] rfl) (by omega) (by omega)
    · replace hF := (if_neg h14).symm.trans hF
      refine lv_aload_n hx hb d_m_forward_102 rfl (lv_at hl 0 rfl) ?_
      refine hw_get (k := 30) (i := 0) (n := 1) (j := 17) (v := .int (f_gI z 30 0 17)) hx hb hts hown hK hW fl_m_55 rfl (by omega) rfl d_m_forward_103 ?_
      refine lv_if_ne (tgt := 190) hx hb d_m_forward_106 (by decide) (fun h15 => ?_) (fun h15 => ?_)
      · replace hF := (if_neg h15).symm.trans hF
        exact B190 k40 K40 x1 x2 z hF _ _ _ _ _ hW hS (lv_sub hl [0, 1, 2] rfl) (by omega) (by omega)
      · replace hF := (if_pos h15).symm.trans hF
        refine lv_iconst (v := 0) hx hb d_m_forward_109 (by decide) ?_
        refine lv_istore (lv' := [(4, .int 0), (0, .ref (L 30 0)), (1, .int x1), (2, .int x2), (3, .int x3)]) hx hb d_m_forward_110 hl (by decide) rfl (fun ls hl => ?_)
        refine lv_aload_n hx hb d_m_forward_112 rfl (lv_at hl 1 rfl) ?_
        refine lv_iload_n hx hb d_m_forward_113 rfl (lv_at hl 4 rfl) ?_
        obtain ⟨v16, z16, hc16, hF⟩ := f_bd_some hF
        refine hw_VR (k := 30) (i := 0) (nk := 1) (As := [.int x3]) (rest := []) hx hb hml hown hts (c_m_rear_ok l hl0 hLi x3  _ _ _ hc16) st_m_72 (by decide) rfl (by omega) rfl rfl hK hZ hsz hS hW rfl hl.1 (Nat.le_of_ble_eq_true rfl) d_m_forward_114 (by omega) (by omega) (by omega) (by omega) (fun H locs hW hS => ?_)
        refine lv_bipush (v := 60) hx hb d_m_forward_117 (by decide) ?_
        refine lv_icmp_ne (tgt := 127) hx hb d_m_forward_119 (by decide) (fun h17 => ?_) (fun h17 => ?_)
        · replace hF := (if_neg h17).symm.trans hF
          exact B127 k40 K40 k94 K94 x1 x2 x3 0 z16 hF _ _ _ _ _ hW hS (lv_sub hl [1, 2, 3, 4, 0] rfl) (by omega) (by omega)
        · replace hF := (if_pos h17).symm.trans hF
          refine lv_aload_n hx hb d_m_forward_122 rfl (lv_at hl 1 rfl) ?_
          refine lv_iload_n hx hb d_m_forward_123 rfl (lv_at hl 4 rfl) ?_
          obtain ⟨v18, z18, hc18, hF⟩ := f_bd_some hF
          refine hw_VR (k := 30) (i := 0) (nk := 1) (As := [.int x3]) (rest := []) hx hb hml hown hts (c_m_judge_ok l hl0 hLi x3  _ _ _ hc18) st_m_126 (by decide) rfl (by omega) rfl rfl hK hZ hsz hS hW rfl hl.1 (Nat.le_of_ble_eq_true rfl) d_m_forward_124 (by omega) (by omega) (by omega) (by omega) (fun H locs hW hS => ?_)
          exact B127 k40 K40 k94 K94 x1 x2 x3 0 z18 hF _ _ _ _ _ hW hS (lv_sub hl [1, 2, 3, 4, 0] rfl) (by omega) (by omega)
  have B61 : ∀ (k40 : Int32 × Int32 × fST → Option (Int32 × fST)) (K40 : ∀ (x1 : Int32) (x2 : Int32) (z : fST), k40 (x1, x2, z) = some (r, z') →  f_B p l e R s m args below meth c L Ar D b0 5 0 (f_E below args s L Ar D b0 0 (.inl (some (.int r))) z') 0 40 [(0, .ref (L 30 0)), (1, .int x1), (2, .int x2)] [] z) (n : Nat) (x1 : Int32) (x2 : Int32) (x3 : Int32) (z : fST), f_it (b_m_forward_61 k40) n (x1, x2, x3, z) = some (r, z') →  f_B p l e R s m args below meth c L Ar D b0 5 0 (f_E below args s L Ar D b0 0 (.inl (some (.int r))) z') 0 61 [(0, .ref (L 30 0)), (1, .int x1), (2, .int x2), (3, .int x3)] [] z := by
    intro k40 K40 n
    induction n with
    | zero => intro x1 x2 x3 z hF; cases hF
    | succ n ih =>
    intro x1 x2 x3 z hF  H locs ls cells slots hW hS hl hc hs
    replace hF := f_it_s hF
    have K61 : ∀ (x1 : Int32) (x2 : Int32) (x3 : Int32) (z : fST), f_it (b_m_forward_61 k40) n (x1, x2, x3, z) = some (r, z') →  f_B p l e R s m args below meth c L Ar D b0 5 0 (f_E below args s L Ar D b0 0 (.inl (some (.int r))) z') 0 61 [(0, .ref (L 30 0)), (1, .int x1), (2, .int x2), (3, .int x3)] [] z := fun x1 x2 x3 z hF => ih x1 x2 x3 z hF
    generalize f_it (b_m_forward_61 k40) n = k61 at hF K61
    unfold b_m_forward_61 at hF
    dsimp only at hF
    refine lv_iload_n hx hb d_m_forward_61 rfl (lv_at hl 3 rfl) ?_
    refine lv_aload_n hx hb d_m_forward_62 rfl (lv_at hl 0 rfl) ?_
    refine hw_get (k := 30) (i := 0) (n := 1) (j := 4) (v := .int (f_gI z 30 0 4)) hx hb hts hown hK hW fl_m_52 rfl (by omega) rfl d_m_forward_63 ?_
    refine lv_icmp_ge (tgt := 89) hx hb d_m_forward_66 (by decide) (fun h11 => ?_) (fun h11 => ?_)
    · replace hF := (if_pos h11).symm.trans hF
      refine lv_iinc (k := 2) (x := x2) (v := x2 + 1) (lv' := [(2, .int (x2 + 1)), (0, .ref (L 30 0)), (1, .int x1), (3, .int x3)]) hx hb d_m_forward_89 hl rfl rfl (by decide) rfl (fun ls hl => ?_)
      refine lv_iconst (v := 0) hx hb d_m_forward_92 (by decide) ?_
      refine lv_istore_n (lv' := [(3, .int 0), (2, .int (x2 + 1)), (0, .ref (L 30 0)), (1, .int x1)]) hx hb d_m_forward_93 rfl hl (by decide) rfl (fun ls hl => ?_)
      exact B94 k40 K40 2000 x1 (x2 + 1) 0 z hF _ _ _ _ _ hW hS (lv_sub hl [2, 3, 1, 0] rfl) (by omega) (by omega)
    · replace hF := (if_neg h11).symm.trans hF
      refine lv_aload_n hx hb d_m_forward_69 rfl (lv_at hl 0 rfl) ?_
      refine lv_iload_n hx hb d_m_forward_70 rfl (lv_at hl 3 rfl) ?_
      refine lv_iconst (v := 2) hx hb d_m_forward_71 (by decide) ?_
      refine lv_aload_n hx hb d_m_forward_72 rfl (lv_at hl 0 rfl) ?_
      refine lv_iload_n hx hb d_m_forward_73 rfl (lv_at hl 3 rfl) ?_
      refine lv_iconst (v := 2) hx hb d_m_forward_74 (by decide) ?_
      obtain ⟨v12, z12, hc12, hF⟩ := f_bd_some hF
      refine hw_VR (k := 30) (i := 0) (nk := 1) (As := [.int x3, .int 2]) (rest := [.int 2, .int x3, .ref (L 30 0)]) hx hb hml hown hts (c_m_get_ok l hl0 hLi x3 2  _ _ _ hc12) st_m_48 (by decide) rfl (by omega) rfl rfl hK hZ hsz hS hW rfl hl.1 (Nat.le_of_ble_eq_true rfl) d_m_forward_75 (by omega) (by omega) (by omega) (by omega) (fun H locs hW hS => ?_)
      refine lv_iconst (v := 1) hx hb d_m_forward_78 (by decide) ?_
      refine lv_iadd hx hb d_m_forward_79 ?_
      obtain ⟨v13, z13, hc13, hF⟩ := f_bd_some hF
      refine hw_VR (k := 30) (i := 0) (nk := 1) (As := [.int x3, .int 2, .int (v12 + 1)]) (rest := []) hx hb hml hown hts (c_m_put_ok l hl0 hLi x3 2 (v12 + 1)  _ _ _ hc13) st_m_78 (by decide) rfl (by omega) rfl rfl hK hZ hsz hS hW rfl hl.1 (Nat.le_of_ble_eq_true rfl) d_m_forward_80 (by omega) (by omega) (by omega) (by omega) (fun H locs hW hS => ?_)
      refine lv_iinc (k := 3) (x := x3) (v := x3 + 1) (lv' := [(3, .int (x3 + 1)), (0, .ref (L 30 0)), (1, .int x1), (2, .int x2)]) hx hb d_m_forward_83 hl rfl rfl (by decide) rfl (fun ls hl => ?_)
      refine lv_goto (tgt := 61) hx hb d_m_forward_86 (by decide) ?_
      exact K61 x1 x2 (x3 + 1) z13 hF _ _ _ _ _ hW hS (lv_sub hl [1, 2, 3, 0] rfl) (by omega) (by omega)
  have B40 : ∀  (n : Nat) (x1 : Int32) (x2 : Int32) (z : fST), f_it (b_m_forward_40 ) n (x1, x2, z) = some (r, z') →  f_B p l e R s m args below meth c L Ar D b0 5 0 (f_E below args s L Ar D b0 0 (.inl (some (.int r))) z') 0 40 [(0, .ref (L 30 0)), (1, .int x1), (2, .int x2)] [] z := by
    intro  n
    induction n with
    | zero => intro x1 x2 z hF; cases hF
    | succ n ih =>
    intro x1 x2 z hF  H locs ls cells slots hW hS hl hc hs
    replace hF := f_it_s hF
    have K40 : ∀ (x1 : Int32) (x2 : Int32) (z : fST), f_it (b_m_forward_40 ) n (x1, x2, z) = some (r, z') →  f_B p l e R s m args below meth c L Ar D b0 5 0 (f_E below args s L Ar D b0 0 (.inl (some (.int r))) z') 0 40 [(0, .ref (L 30 0)), (1, .int x1), (2, .int x2)] [] z := fun x1 x2 z hF => ih x1 x2 z hF
    generalize f_it (b_m_forward_40 ) n = k40 at hF K40
    unfold b_m_forward_40 at hF
    dsimp only at hF
    refine lv_iload_n hx hb d_m_forward_40 rfl (lv_at hl 2 rfl) ?_
    refine lv_iload_n hx hb d_m_forward_41 rfl (lv_at hl 1 rfl) ?_
    refine lv_icmp_ge (tgt := 193) hx hb d_m_forward_42 (by decide) (fun h7 => ?_) (fun h7 => ?_)
    · replace hF := (if_pos h7).symm.trans hF
      refine lv_iload_n hx hb d_m_forward_193 rfl (lv_at hl 2 rfl) ?_
      exact hw_iret hx hb hr hlk (vp_nar_int _) hW hS (by omega) (by omega) d_m_forward_194 hF
    · replace hF := (if_neg h7).symm.trans hF
      refine lv_aload_n hx hb d_m_forward_45 rfl (lv_at hl 0 rfl) ?_
      refine hw_get (k := 30) (i := 0) (n := 1) (j := 17) (v := .int (f_gI z 30 0 17)) hx hb hts hown hK hW fl_m_55 rfl (by omega) rfl d_m_forward_46 ?_
      refine lv_if_ne (tgt := 193) hx hb d_m_forward_49 (by decide) (fun h8 => ?_) (fun h8 => ?_)
      · replace hF := (if_neg h8).symm.trans hF
        refine lv_iload_n hx hb d_m_forward_193 rfl (lv_at hl 2 rfl) ?_
        exact hw_iret hx hb hr hlk (vp_nar_int _) hW hS (by omega) (by omega) d_m_forward_194 hF
      · replace hF := (if_pos h8).symm.trans hF
        refine lv_aload_n hx hb d_m_forward_52 rfl (lv_at hl 0 rfl) ?_
        obtain ⟨v9, z9, hc9, hF⟩ := f_bd_some hF
        refine hw_VR (k := 30) (i := 0) (nk := 1) (As := []) (rest := []) hx hb hml hown hts (c_m_isBlocked_ok l hl0 hLi   _ _ _ hc9) st_m_123 (by decide) rfl (by omega) rfl rfl hK hZ hsz hS hW rfl hl.1 (Nat.le_of_ble_eq_true rfl) d_m_forward_53 (by omega) (by omega) (by omega) (by omega) (fun H locs hW hS => ?_)
        refine lv_if_ne (tgt := 193) hx hb d_m_forward_56 (by decide) (fun h10 => ?_) (fun h10 => ?_)
        · replace hF := (if_neg h10).symm.trans hF
          refine lv_iload_n hx hb d_m_forward_193 rfl (lv_at hl 2 rfl) ?_
          exact hw_iret hx hb hr hlk (vp_nar_int _) hW hS (by omega) (by omega) d_m_forward_194 hF
        · replace hF := (if_pos h10).symm.trans hF
          refine lv_iconst (v := 0) hx hb d_m_forward_59 (by decide) ?_
          refine lv_istore_n (lv' := [(3, .int 0), (0, .ref (L 30 0)), (1, .int x1), (2, .int x2)]) hx hb d_m_forward_60 rfl hl (by decide) rfl (fun ls hl => ?_)
          exact B61 k40 K40 2000 x1 x2 0 z9 hF _ _ _ _ _ hW hS (lv_sub hl [1, 2, 3, 0] rfl) (by omega) (by omega)
  have B29 : ∀  (x1 : Int32) (y1 : Int32) (z : fST), b_m_forward_29  x1 y1 z = some (r, z') →  f_B p l e R s m args below meth c L Ar D b0 5 0 (f_E below args s L Ar D b0 0 (.inl (some (.int r))) z') 0 29 [(0, .ref (L 30 0)), (1, .int x1)] [.int y1, .ref (L 30 0)] z := by
    intro  x1 y1 z hF  H locs ls cells slots hW hS hl hc hs
    unfold b_m_forward_29 at hF
    refine lv_iconst (v := 2) hx hb d_m_forward_29 (by decide) ?_
    obtain ⟨v5, z5, hc5, hF⟩ := f_bd_some hF
    refine hw_VR (k := 30) (i := 0) (nk := 1) (As := [.int y1, .int 2]) (rest := []) hx hb hml hown hts (c_m_fails_ok l hl0 hLi y1 2  _ _ _ hc5) st_m_59 (by decide) rfl (by omega) rfl rfl hK hZ hsz hS hW rfl hl.1 (Nat.le_of_ble_eq_true rfl) d_m_forward_30 (by omega) (by omega) (by omega) (by omega) (fun H locs hW hS => ?_)
    refine lv_if_eq (tgt := 38) hx hb d_m_forward_33 (by decide) (fun h6 => ?_) (fun h6 => ?_)
    · replace hF := (if_pos h6).symm.trans hF
      refine lv_iconst (v := 0) hx hb d_m_forward_38 (by decide) ?_
      refine lv_istore_n (lv' := [(2, .int 0), (0, .ref (L 30 0)), (1, .int x1)]) hx hb d_m_forward_39 rfl hl (by decide) rfl (fun ls hl => ?_)
      exact B40 2000 x1 0 z5 hF _ _ _ _ _ hW hS (lv_sub hl [1, 2, 0] rfl) (by omega) (by omega)
    · replace hF := (if_neg h6).symm.trans hF
      refine lv_iconst (v := 0) hx hb d_m_forward_36 (by decide) ?_
      exact hw_iret hx hb hr hlk (vp_nar_int _) hW hS (by omega) (by omega) d_m_forward_37 hF
  intro H locs ls cells slots hW hS hl hc hs
  have hl : lv_has ls 5 [(0, .ref (L 30 0)), (1, .int a1)] := hl
  unfold F_m_forward at hF
  refine lv_aload_n hx hb d_m_forward_0 rfl (lv_at hl 0 rfl) ?_
  refine lv_aload_n hx hb d_m_forward_1 rfl (lv_at hl 0 rfl) ?_
  refine hw_get (k := 30) (i := 0) (n := 1) (j := 17) (v := .int (f_gI z 30 0 17)) hx hb hts hown hK hW fl_m_55 rfl (by omega) rfl d_m_forward_2 ?_
  refine lv_iconst (v := 1) hx hb d_m_forward_5 (by decide) ?_
  obtain ⟨v1, z1, hc1, hF⟩ := f_bd_some hF
  refine hw_VR (k := 30) (i := 0) (nk := 1) (As := [.int (f_gI z 30 0 17), .int 1]) (rest := []) hx hb hml hown hts (c_m_fails_ok l hl0 hLi (f_gI z 30 0 17) 1  _ _ _ hc1) st_m_59 (by decide) rfl (by omega) rfl rfl hK hZ hsz hS hW rfl hl.1 (Nat.le_of_ble_eq_true rfl) d_m_forward_6 (by omega) (by omega) (by omega) (by omega) (fun H locs hW hS => ?_)
  refine lv_if_ne (tgt := 36) hx hb d_m_forward_9 (by decide) (fun h2 => ?_) (fun h2 => ?_)
  · replace hF := (if_neg h2).symm.trans hF
    refine lv_iconst (v := 0) hx hb d_m_forward_36 (by decide) ?_
    exact hw_iret hx hb hr hlk (vp_nar_int _) hW hS (by omega) (by omega) d_m_forward_37 hF
  · replace hF := (if_pos h2).symm.trans hF
    refine lv_aload_n hx hb d_m_forward_12 rfl (lv_at hl 0 rfl) ?_
    refine lv_iload_n hx hb d_m_forward_13 rfl (lv_at hl 1 rfl) ?_
    refine lv_iconst (v := 0) hx hb d_m_forward_14 (by decide) ?_
    refine lv_sipush (v := 300) hx hb d_m_forward_15 (by decide) ?_
    obtain ⟨v3, z3, hc3, hF⟩ := f_bd_some hF
    refine hw_SR (As := [.int a1, .int 0, .int 300]) (rest := [.ref (L 30 0)]) hx hb hml hown hts (c_m_within_ok l hl0 hLi a1 0 300  _ _ _ hc3) st_m_63 hK hZ hsz hS hW rfl hl.1 (Nat.le_of_ble_eq_true rfl) d_m_forward_18 (by omega) (by omega) (by omega) (by omega) (fun H locs hW hS => ?_)
    refine lv_if_ne (tgt := 28) hx hb d_m_forward_21 (by decide) (fun h4 => ?_) (fun h4 => ?_)
    · replace hF := (if_neg h4).symm.trans hF
      refine lv_iconst (v := 0) hx hb d_m_forward_28 (by decide) ?_
      exact B29 a1 0 z3 hF _ _ _ _ _ hW hS (lv_sub hl [0, 1] rfl) (by omega) (by omega)
    · replace hF := (if_pos h4).symm.trans hF
      refine lv_iconst (v := 1) hx hb d_m_forward_24 (by decide) ?_
      refine lv_goto (tgt := 29) hx hb d_m_forward_25 (by decide) ?_
      exact B29 a1 1 z3 hF _ _ _ _ _ hW hS (lv_sub hl [0, 1] rfl) (by omega) (by omega)
set_option maxRecDepth 100000 in
set_option maxHeartbeats 4000000 in
theorem c_m_forget_ok (l : Launch) (hl0 : l.stackTraces = false) {L : Nat → Nat → Nat} {Ar : Nat → ClassId} {D : va_G} {b0 : Nat} (hLi : f_L L b0) (a1 : Int32)  (z : fST) (r : Unit) (z' : fST) (hF : F_m_forget a1 z = some (r, z')) : f_C l y_m_forget wt 2 0 L Ar D b0 [.ref (L 30 0), .int a1] z (.inl none) z' := by
  refine f_ofW (cc := c_m_forget) (maxL := 2) (ret := (Option.none : Option Jvm.ClassFile.FieldType)) (by decide) w_m_forget (Nat.le_of_ble_eq_true rfl) ?_
  intro p e s m args below meth c R hRf hRl hRc hRs hx hb hr hlk hml hno hts hown hK hZ hsz
  intro H locs ls cells slots hW hS hl hc hs
  have hl : lv_has ls 2 [(0, .ref (L 30 0)), (1, .int a1)] := hl
  unfold F_m_forget at hF
  refine lv_aload_n hx hb d_m_forget_0 rfl (lv_at hl 0 rfl) ?_
  refine lv_iload_n hx hb d_m_forget_1 rfl (lv_at hl 1 rfl) ?_
  refine lv_iconst (v := 3) hx hb d_m_forget_2 (by decide) ?_
  refine lv_iconst (v := 0) hx hb d_m_forget_3 (by decide) ?_
  obtain ⟨v1, z1, hc1, hF⟩ := f_bd_some hF
  refine hw_VR (k := 30) (i := 0) (nk := 1) (As := [.int a1, .int 3, .int 0]) (rest := []) hx hb hml hown hts (c_m_put_ok l hl0 hLi a1 3 0  _ _ _ hc1) st_m_78 (by decide) rfl (by omega) rfl rfl hK hZ hsz hS hW rfl hl.1 (Nat.le_of_ble_eq_true rfl) d_m_forget_4 (by omega) (by omega) (by omega) (by omega) (fun H locs hW hS => ?_)
  refine lv_aload_n hx hb d_m_forget_7 rfl (lv_at hl 0 rfl) ?_
  refine lv_iload_n hx hb d_m_forget_8 rfl (lv_at hl 1 rfl) ?_
  refine lv_iconst (v := 4) hx hb d_m_forget_9 (by decide) ?_
  refine lv_iconst (v := (-1)) hx hb d_m_forget_10 (by decide) ?_
  obtain ⟨v2, z2, hc2, hF⟩ := f_bd_some hF
  refine hw_VR (k := 30) (i := 0) (nk := 1) (As := [.int a1, .int 4, .int ((-1))]) (rest := []) hx hb hml hown hts (c_m_put_ok l hl0 hLi a1 4 ((-1))  _ _ _ hc2) st_m_78 (by decide) rfl (by omega) rfl rfl hK hZ hsz hS hW rfl hl.1 (Nat.le_of_ble_eq_true rfl) d_m_forget_11 (by omega) (by omega) (by omega) (by omega) (fun H locs hW hS => ?_)
  refine lv_aload_n hx hb d_m_forget_14 rfl (lv_at hl 0 rfl) ?_
  refine lv_iload_n hx hb d_m_forget_15 rfl (lv_at hl 1 rfl) ?_
  refine lv_bipush (v := 6) hx hb d_m_forget_16 (by decide) ?_
  refine lv_iconst (v := (-1)) hx hb d_m_forget_18 (by decide) ?_
  obtain ⟨v3, z3, hc3, hF⟩ := f_bd_some hF
  refine hw_VR (k := 30) (i := 0) (nk := 1) (As := [.int a1, .int 6, .int ((-1))]) (rest := []) hx hb hml hown hts (c_m_put_ok l hl0 hLi a1 6 ((-1))  _ _ _ hc3) st_m_78 (by decide) rfl (by omega) rfl rfl hK hZ hsz hS hW rfl hl.1 (Nat.le_of_ble_eq_true rfl) d_m_forget_19 (by omega) (by omega) (by omega) (by omega) (fun H locs hW hS => ?_)
  refine lv_aload_n hx hb d_m_forget_22 rfl (lv_at hl 0 rfl) ?_
  refine lv_iload_n hx hb d_m_forget_23 rfl (lv_at hl 1 rfl) ?_
  refine lv_bipush (v := 7) hx hb d_m_forget_24 (by decide) ?_
  refine lv_iconst (v := 0) hx hb d_m_forget_26 (by decide) ?_
  obtain ⟨v4, z4, hc4, hF⟩ := f_bd_some hF
  refine hw_VR (k := 30) (i := 0) (nk := 1) (As := [.int a1, .int 7, .int 0]) (rest := []) hx hb hml hown hts (c_m_put_ok l hl0 hLi a1 7 0  _ _ _ hc4) st_m_78 (by decide) rfl (by omega) rfl rfl hK hZ hsz hS hW rfl hl.1 (Nat.le_of_ble_eq_true rfl) d_m_forget_27 (by omega) (by omega) (by omega) (by omega) (fun H locs hW hS => ?_)
  refine lv_aload_n hx hb d_m_forget_30 rfl (lv_at hl 0 rfl) ?_
  refine lv_iload_n hx hb d_m_forget_31 rfl (lv_at hl 1 rfl) ?_
  refine lv_bipush (v := 8) hx hb d_m_forget_32 (by decide) ?_
  refine lv_iconst (v := 0) hx hb d_m_forget_34 (by decide) ?_
  obtain ⟨v5, z5, hc5, hF⟩ := f_bd_some hF
  refine hw_VR (k := 30) (i := 0) (nk := 1) (As := [.int a1, .int 8, .int 0]) (rest := []) hx hb hml hown hts (c_m_put_ok l hl0 hLi a1 8 0  _ _ _ hc5) st_m_78 (by decide) rfl (by omega) rfl rfl hK hZ hsz hS hW rfl hl.1 (Nat.le_of_ble_eq_true rfl) d_m_forget_35 (by omega) (by omega) (by omega) (by omega) (fun H locs hW hS => ?_)
  exact hw_vret hx hb hr hlk hW hS (by omega) (by omega) d_m_forget_38 hF
set_option maxRecDepth 100000 in
set_option maxHeartbeats 4000000 in
theorem c_m_back_ok (l : Launch) (hl0 : l.stackTraces = false) {L : Nat → Nat → Nat} {Ar : Nat → ClassId} {D : va_G} {b0 : Nat} (hLi : f_L L b0) (a1 : Int32)  (z : fST) (r : Int32) (z' : fST) (hF : F_m_back a1 z = some (r, z')) : f_C l y_m_back wt 3 0 L Ar D b0 [.ref (L 30 0), .int a1] z (.inl (some (.int r))) z' := by
  refine f_ofW (cc := c_m_back) (maxL := 6) (ret := (some FieldType.int)) (by decide) w_m_back (Nat.le_of_ble_eq_true rfl) ?_
  intro p e s m args below meth c R hRf hRl hRc hRs hx hb hr hlk hml hno hts hown hK hZ hsz
  have B157 : ∀ (k42 : Int32 × Int32 × Int32 × fST → Option (Int32 × fST)) (K42 : ∀ (x1 : Int32) (x2 : Int32) (x3 : Int32) (z : fST), k42 (x1, x2, x3, z) = some (r, z') →  f_B p l e R s m args below meth c L Ar D b0 6 0 (f_E below args s L Ar D b0 0 (.inl (some (.int r))) z') 0 42 [(0, .ref (L 30 0)), (1, .int x1), (2, .int x2), (3, .int x3)] [] z) (x1 : Int32) (x2 : Int32) (x3 : Int32) (y1 : Int32) (y2 : Int32) (z : fST), b_m_back_157 k42 x1 x2 x3 y1 y2 z = some (r, z') →  f_B p l e R s m args below meth c L Ar D b0 6 0 (f_E below args s L Ar D b0 0 (.inl (some (.int r))) z') 0 157 [(0, .ref (L 30 0)), (1, .int x1), (2, .int x2), (3, .int x3)] [.int y2, .int y1, .ref (L 30 0)] z := by
    intro k42 K42 x1 x2 x3 y1 y2 z hF  H locs ls cells slots hW hS hl hc hs
    unfold b_m_back_157 at hF
    refine lv_iadd hx hb d_m_back_157 ?_
    refine hw_put (k := 30) (i := 0) (n := 1) (j := 16) (v := y1 + y2) hx hb hts hown hK hLi hW hS fp_m_91 (vp_nar_int _) rfl rfl (by omega) d_m_back_158 (fun H locs hW hS => ?_)
    refine lv_iinc (k := 3) (x := x3) (v := x3 + 1) (lv' := [(3, .int (x3 + 1)), (0, .ref (L 30 0)), (1, .int x1), (2, .int x2)]) hx hb d_m_back_161 hl rfl rfl (by decide) rfl (fun ls hl => ?_)
    refine lv_goto (tgt := 42) hx hb d_m_back_164 (by decide) ?_
    exact K42 x1 x2 (x3 + 1) (f_pI z 30 0 16 (y1 + y2)) hF _ _ _ _ _ hW hS (lv_sub hl [1, 2, 3, 0] rfl) (by omega) (by omega)
  have B136 : ∀ (k42 : Int32 × Int32 × Int32 × fST → Option (Int32 × fST)) (K42 : ∀ (x1 : Int32) (x2 : Int32) (x3 : Int32) (z : fST), k42 (x1, x2, x3, z) = some (r, z') →  f_B p l e R s m args below meth c L Ar D b0 6 0 (f_E below args s L Ar D b0 0 (.inl (some (.int r))) z') 0 42 [(0, .ref (L 30 0)), (1, .int x1), (2, .int x2), (3, .int x3)] [] z) (k58 : Int32 × Int32 × Int32 × Int32 × Int32 × fST → Option (Int32 × fST)) (K58 : ∀ (x1 : Int32) (x2 : Int32) (x3 : Int32) (x4 : Int32) (x5 : Int32) (z : fST), k58 (x1, x2, x3, x4, x5, z) = some (r, z') →  f_B p l e R s m args below meth c L Ar D b0 6 0 (f_E below args s L Ar D b0 0 (.inl (some (.int r))) z') 0 58 [(0, .ref (L 30 0)), (1, .int x1), (2, .int x2), (3, .int x3), (4, .int x4), (5, .int x5)] [] z) (x1 : Int32) (x2 : Int32) (x3 : Int32) (x4 : Int32) (x5 : Int32) (z : fST), b_m_back_136 k42 k58 x1 x2 x3 x4 x5 z = some (r, z') →  f_B p l e R s m args below meth c L Ar D b0 6 0 (f_E below args s L Ar D b0 0 (.inl (some (.int r))) z') 0 136 [(0, .ref (L 30 0)), (1, .int x1), (2, .int x2), (3, .int x3), (4, .int x4), (5, .int x5)] [] z := by
    intro k42 K42 k58 K58 x1 x2 x3 x4 x5 z hF  H locs ls cells slots hW hS hl hc hs
    unfold b_m_back_136 at hF
    refine lv_iinc (k := 5) (x := x5) (v := x5 + (-1)) (lv' := [(5, .int (x5 + (-1))), (0, .ref (L 30 0)), (1, .int x1), (2, .int x2), (3, .int x3), (4, .int x4)]) hx hb d_m_back_136 hl rfl rfl (by decide) rfl (fun ls hl => ?_)
    refine lv_goto (tgt := 58) hx hb d_m_back_139 (by decide) ?_
    exact K58 x1 x2 x3 x4 (x5 + (-1)) z hF _ _ _ _ _ hW hS (lv_sub hl [1, 2, 3, 4, 5, 0] rfl) (by omega) (by omega)
  have B114 : ∀ (k42 : Int32 × Int32 × Int32 × fST → Option (Int32 × fST)) (K42 : ∀ (x1 : Int32) (x2 : Int32) (x3 : Int32) (z : fST), k42 (x1, x2, x3, z) = some (r, z') →  f_B p l e R s m args below meth c L Ar D b0 6 0 (f_E below args s L Ar D b0 0 (.inl (some (.int r))) z') 0 42 [(0, .ref (L 30 0)), (1, .int x1), (2, .int x2), (3, .int x3)] [] z) (k58 : Int32 × Int32 × Int32 × Int32 × Int32 × fST → Option (Int32 × fST)) (K58 : ∀ (x1 : Int32) (x2 : Int32) (x3 : Int32) (x4 : Int32) (x5 : Int32) (z : fST), k58 (x1, x2, x3, x4, x5, z) = some (r, z') →  f_B p l e R s m args below meth c L Ar D b0 6 0 (f_E below args s L Ar D b0 0 (.inl (some (.int r))) z') 0 58 [(0, .ref (L 30 0)), (1, .int x1), (2, .int x2), (3, .int x3), (4, .int x4), (5, .int x5)] [] z) (x1 : Int32) (x2 : Int32) (x3 : Int32) (x4 : Int32) (x5 : Int32) (z : fST), b_m_back_114 k42 k58 x1 x2 x3 x4 x5 z = some (r, z') →  f_B p l e R s m args below meth c L Ar D b0 6 0 (f_E below args s L Ar D b0 0 (.inl (some (.int r))) z') 0 114 [(0, .ref (L 30 0)), (1, .int x1), (2, .int x2), (3, .int x3), (4, .int x4), (5, .int x5)] [] z := by
    intro k42 K42 k58 K58 x1 x2 x3 x4 x5 z hF  H locs ls cells slots hW hS hl hc hs
    unfold b_m_back_114 at hF
    refine lv_aload_n hx hb d_m_back_114 rfl (lv_at hl 0 rfl) ?_
    refine lv_iload hx hb d_m_back_115 (lv_at hl 5 rfl) ?_
    refine lv_iconst (v := 2) hx hb d_m_back_117 (by decide) ?_
    obtain ⟨v17, z17, hc17, hF⟩ := f_bd_some hF
    refine hw_VR (k := 30) (i := 0) (nk := 1) (As := [.int x5, .int 2]) (rest := []) hx hb hml hown hts (c_m_get_ok l hl0 hLi x5 2  _ _ _ hc17) st_m_48 (by decide) rfl (by omega) rfl rfl hK hZ hsz hS hW rfl hl.1 (Nat.le_of_ble_eq_true rfl) d_m_back_118 (by omega) (by omega) (by omega) (by omega) (fun H locs hW hS => ?_)
    refine lv_if_lt (tgt := 127) hx hb d_m_back_121 (by decide) (fun h18 => ?_) (fun h18 => ?_)
    · replace hF := (if_pos h18).symm.trans hF
      refine lv_aload_n hx hb d_m_back_127 rfl (lv_at hl 0 rfl) ?_
      refine lv_iload hx hb d_m_back_128 (lv_at hl 5 rfl) ?_
      obtain ⟨v19, z19, hc19, hF⟩ := f_bd_some hF
      refine hw_VR (k := 30) (i := 0) (nk := 1) (As := [.int x5]) (rest := []) hx hb hml hown hts (c_m_remove_ok l hl0 hLi x5  _ _ _ hc19) st_m_119 (by decide) rfl (by omega) rfl rfl hK hZ hsz hS hW rfl hl.1 (Nat.le_of_ble_eq_true rfl) d_m_back_130 (by omega) (by omega) (by omega) (by omega) (fun H locs hW hS => ?_)
      refine lv_iinc (k := 2) (x := x2) (v := x2 + 1) (lv' := [(2, .int (x2 + 1)), (0, .ref (L 30 0)), (1, .int x1), (3, .int x3), (4, .int x4), (5, .int x5)]) hx hb d_m_back_133 hl rfl rfl (by decide) rfl (fun ls hl => ?_)
      exact B136 k42 K42 k58 K58 x1 (x2 + 1) x3 x4 x5 z19 hF _ _ _ _ _ hW hS (lv_sub hl [1, 2, 0, 3, 4, 5] rfl) (by omega) (by omega)
    · replace hF := (if_neg h18).symm.trans hF
      refine lv_goto (tgt := 136) hx hb d_m_back_124 (by decide) ?_
      exact B136 k42 K42 k58 K58 x1 x2 x3 x4 x5 z17 hF _ _ _ _ _ hW hS (lv_sub hl [0, 1, 2, 3, 4, 5] rfl) (by omega) (by omega)
  have B58 : ∀ (k42 : Int32 × Int32 × Int32 × fST → Option (Int32 × fST)) (K42 : ∀ (x1 : Int32) (x2 : Int32) (x3 : Int32) (z : fST), k42 (x1, x2, x3, z) = some (r, z') →  f_B p l e R s m args below meth c L Ar D b0 6 0 (f_E below args s L Ar D b0 0 (.inl (some (.int r))) z') 0 42 [(0, .ref (L 30 0)), (1, .int x1), (2, .int x2), (3, .int x3)] [] z) (n : Nat) (x1 : Int32) (x2 : Int32) (x3 : Int32) (x4 : Int32) (x5 : Int32) (z : fST), f_it (b_m_back_58 k42) n (x1, x2, x3, x4, x5, z) = some (r, z') →  f_B p l e R s m args below meth c L Ar D b0 6 0 (f_E below args s L Ar D b0 0 (.inl (some (.int r))) z') 0 58 [(0, .ref (L 30 0)), (1, .int x1), (2, .int x2), (3, .int x3), (4, .int x4), (5, .int x5)] [] z := by
    intro k42 K42 n
    induction n with
    | zero => intro x1 x2 x3 x4 x5 z hF; cases hF
    | succ n ih =>
    intro x1 x2 x3 x4 x5 z hF  H locs ls cells slots hW hS hl hc hs
    replace hF := f_it_s hF
    have K58 : ∀ (x1 : Int32) (x2 : Int32) (x3 : Int32) (x4 : Int32) (x5 : Int32) (z : fST), f_it (b_m_back_58 k42) n (x1, x2, x3, x4, x5, z) = some (r, z') →  f_B p l e R s m args below meth c L Ar D b0 6 0 (f_E below args s L Ar D b0 0 (.inl (some (.int r))) z') 0 58 [(0, .ref (L 30 0)), (1, .int x1), (2, .int x2), (3, .int x3), (4, .int x4), (5, .int x5)] [] z := fun x1 x2 x3 x4 x5 z hF => ih x1 x2 x3 x4 x5 z hF
    generalize f_it (b_m_back_58 k42) n = k58 at hF K58
    unfold b_m_back_58 at hF
    dsimp only at hF
    refine lv_iload hx hb d_m_back_58 (lv_at hl 5 rfl) ?_
    refine lv_if_lt (tgt := 142) hx hb d_m_back_60 (by decide) (fun h8 => ?_) (fun h8 => ?_)
    · replace hF := (if_pos h8).symm.trans hF
      refine lv_aload_n hx hb d_m_back_142 rfl (lv_at hl 0 rfl) ?_
      refine lv_dup hx hb d_m_back_143 rfl ?_
      refine hw_get (k := 30) (i := 0) (n := 1) (j := 16) (v := .int (f_gI z 30 0 16)) hx hb hts hown hK hW fl_m_91 rfl (by omega) rfl d_m_back_144 ?_
      refine lv_iload hx hb d_m_back_147 (lv_at hl 4 rfl) ?_
      refine lv_if_eq (tgt := 156) hx hb d_m_back_149 (by decide) (fun h9 => ?_) (fun h9 => ?_)
      · replace hF := (if_pos h9).symm.trans hF
        refine lv_iconst (v := 0) hx hb d_m_back_156 (by decide) ?_
        exact B157 k42 K42 x1 x2 x3 (f_gI z 30 0 16) 0 z hF _ _ _ _ _ hW hS (lv_sub hl [0, 1, 2, 3] rfl) (by omega) (by omega)
      · replace hF := (if_neg h9).symm.trans hF
        refine lv_iconst (v := 1) hx hb d_m_back_152 (by decide) ?_
        refine lv_goto (tgt := 157) hx hb d_m_back_153 (by decide) ?_
        exact B157 k42 K42 x1 x2 x3 (f_gI z 30 0 16) 1 z hF _ _ _ _ _ hW hS (lv_sub hl [0, 1, 2, 3] rfl) (by omega) (by omega)
    · replace hF := (if_neg h8).symm.trans hF
      refine lv_aload_n hx hb d_m_back_63 rfl (lv_at hl 0 rfl) ?_
      refine lv_iload hx hb d_m_back_64 (lv_at hl 5 rfl) ?_
      refine lv_iconst (v := 2) hx hb d_m_back_66 (by decide) ?_
      obtain ⟨v10, z10, hc10, hF⟩ := f_bd_some hF
      refine hw_VR (k := 30) (i := 0) (nk := 1) (As := [.int x5, .int 2]) (rest := []) hx hb hml hown hts (c_m_get_ok l hl0 hLi x5 2  _ _ _ hc10) st_m_48 (by decide) rfl (by omega) rfl rfl hK hZ hsz hS hW rfl hl.1 (Nat.le_of_ble_eq_true rfl) d_m_back_67 (by omega) (by omega) (by omega) (by omega) (fun H locs hW hS => ?_)
      refine lv_bipush (v := 104) hx hb d_m_back_70 (by decide) ?_
      refine lv_icmp_le (tgt := 78) hx hb d_m_back_72 (by decide) (fun h11 => ?_) (fun h11 => ?_)
      · replace hF := (if_pos h11).symm.trans hF
        refine lv_iconst (v := 1) hx hb d_m_back_78 (by decide) ?_
        refine lv_istore (lv' := [(4, .int 1), (0, .ref (L 30 0)), (1, .int x1), (2, .int x2), (3, .int x3), (5, .int x5)]) hx hb d_m_back_79 hl (by decide) rfl (fun ls hl => ?_)
        refine lv_aload_n hx hb d_m_back_81 rfl (lv_at hl 1 rfl) ?_
        refine lv_iload hx hb d_m_back_82 (lv_at hl 5 rfl) ?_
        refine lv_iconst (v := 2) hx hb d_m_back_84 (by decide) ?_
        refine lv_aload_n hx hb d_m_back_85 rfl (lv_at hl 1 rfl) ?_
        refine lv_iload hx hb d_m_back_86 (lv_at hl 5 rfl) ?_
        refine lv_iconst (v := 2) hx hb d_m_back_88 (by decide) ?_
        obtain ⟨v12, z12, hc12, hF⟩ := f_bd_some hF
        refine hw_VR (k := 30) (i := 0) (nk := 1) (As := [.int x5, .int 2]) (rest := [.int 2, .int x5, .ref (L 30 0)]) hx hb hml hown hts (c_m_get_ok l hl0 hLi x5 2  _ _ _ hc12) st_m_48 (by decide) rfl (by omega) rfl rfl hK hZ hsz hS hW rfl hl.1 (Nat.le_of_ble_eq_true rfl) d_m_back_89 (by omega) (by omega) (by omega) (by omega) (fun H locs hW hS => ?_)
        refine lv_iconst (v := 1) hx hb d_m_back_92 (by decide) ?_
        refine lv_isub hx hb d_m_back_93 ?_
        obtain ⟨v13, z13, hc13, hF⟩ := f_bd_some hF
        refine hw_VR (k := 30) (i := 0) (nk := 1) (As := [.int x5, .int 2, .int (v12 - 1)]) (rest := []) hx hb hml hown hts (c_m_put_ok l hl0 hLi x5 2 (v12 - 1)  _ _ _ hc13) st_m_78 (by decide) rfl (by omega) rfl rfl hK hZ hsz hS hW rfl hl.1 (Nat.le_of_ble_eq_true rfl) d_m_back_94 (by omega) (by omega) (by omega) (by omega) (fun H locs hW hS => ?_)
        refine lv_aload_n hx hb d_m_back_97 rfl (lv_at hl 1 rfl) ?_
        refine lv_iload hx hb d_m_back_98 (lv_at hl 5 rfl) ?_
        obtain ⟨v14, z14, hc14, hF⟩ := f_bd_some hF
        refine hw_VR (k := 30) (i := 0) (nk := 1) (As := [.int x5]) (rest := []) hx hb hml hown hts (c_m_rear_ok l hl0 hLi x5  _ _ _ hc14) st_m_72 (by decide) rfl (by omega) rfl rfl hK hZ hsz hS hW rfl hl.1 (Nat.le_of_ble_eq_true rfl) d_m_back_100 (by omega) (by omega) (by omega) (by omega) (fun H locs hW hS => ?_)
        refine lv_bipush (v := 59) hx hb d_m_back_103 (by decide) ?_
        refine lv_icmp_ne (tgt := 114) hx hb d_m_back_105 (by decide) (fun h15 => ?_) (fun h15 => ?_)
        · replace hF := (if_neg h15).symm.trans hF
          exact B114 k42 K42 k58 K58 x1 x2 x3 1 x5 z14 hF _ _ _ _ _ hW hS (lv_sub hl [1, 2, 3, 4, 0, 5] rfl) (by omega) (by omega)
        · replace hF := (if_pos h15).symm.trans hF
          refine lv_aload_n hx hb d_m_back_108 rfl (lv_at hl 1 rfl) ?_
          refine lv_iload hx hb d_m_back_109 (lv_at hl 5 rfl) ?_
          obtain ⟨v16, z16, hc16, hF⟩ := f_bd_some hF
          refine hw_VR (k := 30) (i := 0) (nk := 1) (As := [.int x5]) (rest := []) hx hb hml hown hts (c_m_forget_ok l hl0 hLi x5  _ _ _ hc16) st_m_136 (by decide) rfl (by omega) rfl rfl hK hZ hsz hS hW rfl hl.1 (Nat.le_of_ble_eq_true rfl) d_m_back_111 (by omega) (by omega) (by omega) (by omega) (fun H locs hW hS => ?_)
          exact B114 k42 K42 k58 K58 x1 x2 x3 1 x5 z16 hF _ _ _ _ _ hW hS (lv_sub hl [1, 2, 3, 4, 0, 5] rfl) (by omega) (by omega)
      · replace hF := (if_neg h11).symm.trans hF
        refine lv_goto (tgt := 136) hx hb d_m_back_75 (by decide) ?_
        exact B136 k42 K42 k58 K58 x1 x2 x3 x4 x5 z10 hF _ _ _ _ _ hW hS (lv_sub hl [0, 1, 2, 3, 4, 5] rfl) (by omega) (by omega)
  have B42 : ∀  (n : Nat) (x1 : Int32) (x2 : Int32) (x3 : Int32) (z : fST), f_it (b_m_back_42 ) n (x1, x2, x3, z) = some (r, z') →  f_B p l e R s m args below meth c L Ar D b0 6 0 (f_E below args s L Ar D b0 0 (.inl (some (.int r))) z') 0 42 [(0, .ref (L 30 0)), (1, .int x1), (2, .int x2), (3, .int x3)] [] z := by
    intro  n
    induction n with
    | zero => intro x1 x2 x3 z hF; cases hF
    | succ n ih =>
    intro x1 x2 x3 z hF  H locs ls cells slots hW hS hl hc hs
    replace hF := f_it_s hF
    have K42 : ∀ (x1 : Int32) (x2 : Int32) (x3 : Int32) (z : fST), f_it (b_m_back_42 ) n (x1, x2, x3, z) = some (r, z') →  f_B p l e R s m args below meth c L Ar D b0 6 0 (f_E below args s L Ar D b0 0 (.inl (some (.int r))) z') 0 42 [(0, .ref (L 30 0)), (1, .int x1), (2, .int x2), (3, .int x3)] [] z := fun x1 x2 x3 z hF => ih x1 x2 x3 z hF
    generalize f_it (b_m_back_42 ) n = k42 at hF K42
    unfold b_m_back_42 at hF
    dsimp only at hF
    refine lv_iload_n hx hb d_m_back_42 rfl (lv_at hl 3 rfl) ?_
    refine lv_iload_n hx hb d_m_back_43 rfl (lv_at hl 1 rfl) ?_
    refine lv_icmp_ge (tgt := 167) hx hb d_m_back_44 (by decide) (fun h7 => ?_) (fun h7 => ?_)
    · replace hF := (if_pos h7).symm.trans hF
      refine lv_iload_n hx hb d_m_back_167 rfl (lv_at hl 2 rfl) ?_
      exact hw_iret hx hb hr hlk (vp_nar_int _) hW hS (by omega) (by omega) d_m_back_168 hF
    · replace hF := (if_neg h7).symm.trans hF
      refine lv_iconst (v := 0) hx hb d_m_back_47 (by decide) ?_
      refine lv_istore (lv' := [(4, .int 0), (0, .ref (L 30 0)), (1, .int x1), (2, .int x2), (3, .int x3)]) hx hb d_m_back_48 hl (by decide) rfl (fun ls hl => ?_)
      refine lv_aload_n hx hb d_m_back_50 rfl (lv_at hl 1 rfl) ?_
      refine hw_get (k := 30) (i := 0) (n := 1) (j := 4) (v := .int (f_gI z 30 0 4)) hx hb hts hown hK hW fl_m_52 rfl (by omega) rfl d_m_back_51 ?_
      refine lv_iconst (v := 1) hx hb d_m_back_54 (by decide) ?_
      refine lv_isub hx hb d_m_back_55 ?_
      refine lv_istore (lv' := [(5, .int ((f_gI z 30 0 4) - 1)), (4, .int 0), (0, .ref (L 30 0)), (1, .int x1), (2, .int x2), (3, .int x3)]) hx hb d_m_back_56 hl (by decide) rfl (fun ls hl => ?_)
      exact B58 k42 K42 2000 x1 x2 x3 0 ((f_gI z 30 0 4) - 1) z hF _ _ _ _ _ hW hS (lv_sub hl [2, 3, 4, 5, 1, 0] rfl) (by omega) (by omega)
  have B29 : ∀  (x1 : Int32) (y1 : Int32) (z : fST), b_m_back_29  x1 y1 z = some (r, z') →  f_B p l e R s m args below meth c L Ar D b0 6 0 (f_E below args s L Ar D b0 0 (.inl (some (.int r))) z') 0 29 [(0, .ref (L 30 0)), (1, .int x1)] [.int y1, .ref (L 30 0)] z := by
    intro  x1 y1 z hF  H locs ls cells slots hW hS hl hc hs
    unfold b_m_back_29 at hF
    refine lv_iconst (v := 2) hx hb d_m_back_29 (by decide) ?_
    obtain ⟨v5, z5, hc5, hF⟩ := f_bd_some hF
    refine hw_VR (k := 30) (i := 0) (nk := 1) (As := [.int y1, .int 2]) (rest := []) hx hb hml hown hts (c_m_fails_ok l hl0 hLi y1 2  _ _ _ hc5) st_m_59 (by decide) rfl (by omega) rfl rfl hK hZ hsz hS hW rfl hl.1 (Nat.le_of_ble_eq_true rfl) d_m_back_30 (by omega) (by omega) (by omega) (by omega) (fun H locs hW hS => ?_)
    refine lv_if_eq (tgt := 38) hx hb d_m_back_33 (by decide) (fun h6 => ?_) (fun h6 => ?_)
    · replace hF := (if_pos h6).symm.trans hF
      refine lv_iconst (v := 0) hx hb d_m_back_38 (by decide) ?_
      refine lv_istore_n (lv' := [(2, .int 0), (0, .ref (L 30 0)), (1, .int x1)]) hx hb d_m_back_39 rfl hl (by decide) rfl (fun ls hl => ?_)
      refine lv_iconst (v := 0) hx hb d_m_back_40 (by decide) ?_
      refine lv_istore_n (lv' := [(3, .int 0), (2, .int 0), (0, .ref (L 30 0)), (1, .int x1)]) hx hb d_m_back_41 rfl hl (by decide) rfl (fun ls hl => ?_)
      exact B42 2000 x1 0 0 z5 hF _ _ _ _ _ hW hS (lv_sub hl [2, 3, 1, 0] rfl) (by omega) (by omega)
    · replace hF := (if_neg h6).symm.trans hF
      refine lv_iconst (v := 0) hx hb d_m_back_36 (by decide) ?_
      exact hw_iret hx hb hr hlk (vp_nar_int _) hW hS (by omega) (by omega) d_m_back_37 hF
  intro H locs ls cells slots hW hS hl hc hs
  have hl : lv_has ls 6 [(0, .ref (L 30 0)), (1, .int a1)] := hl
  unfold F_m_back at hF
  refine lv_aload_n hx hb d_m_back_0 rfl (lv_at hl 0 rfl) ?_
  refine lv_aload_n hx hb d_m_back_1 rfl (lv_at hl 0 rfl) ?_
  refine hw_get (k := 30) (i := 0) (n := 1) (j := 17) (v := .int (f_gI z 30 0 17)) hx hb hts hown hK hW fl_m_55 rfl (by omega) rfl d_m_back_2 ?_
  refine lv_iconst (v := 1) hx hb d_m_back_5 (by decide) ?_
  obtain ⟨v1, z1, hc1, hF⟩ := f_bd_some hF
  refine hw_VR (k := 30) (i := 0) (nk := 1) (As := [.int (f_gI z 30 0 17), .int 1]) (rest := []) hx hb hml hown hts (c_m_fails_ok l hl0 hLi (f_gI z 30 0 17) 1  _ _ _ hc1) st_m_59 (by decide) rfl (by omega) rfl rfl hK hZ hsz hS hW rfl hl.1 (Nat.le_of_ble_eq_true rfl) d_m_back_6 (by omega) (by omega) (by omega) (by omega) (fun H locs hW hS => ?_)
  refine lv_if_ne (tgt := 36) hx hb d_m_back_9 (by decide) (fun h2 => ?_) (fun h2 => ?_)
  · replace hF := (if_neg h2).symm.trans hF
    refine lv_iconst (v := 0) hx hb d_m_back_36 (by decide) ?_
    exact hw_iret hx hb hr hlk (vp_nar_int _) hW hS (by omega) (by omega) d_m_back_37 hF
  · replace hF := (if_pos h2).symm.trans hF
    refine lv_aload_n hx hb d_m_back_12 rfl (lv_at hl 0 rfl) ?_
    refine lv_iload_n hx hb d_m_back_13 rfl (lv_at hl 1 rfl) ?_
    refine lv_iconst (v := 0) hx hb d_m_back_14 (by decide) ?_
    refine lv_sipush (v := 300) hx hb d_m_back_15 (by decide) ?_
    obtain ⟨v3, z3, hc3, hF⟩ := f_bd_some hF
    refine hw_SR (As := [.int a1, .int 0, .int 300]) (rest := [.ref (L 30 0)]) hx hb hml hown hts (c_m_within_ok l hl0 hLi a1 0 300  _ _ _ hc3) st_m_63 hK hZ hsz hS hW rfl hl.1 (Nat.le_of_ble_eq_true rfl) d_m_back_18 (by omega) (by omega) (by omega) (by omega) (fun H locs hW hS => ?_)
    refine lv_if_ne (tgt := 28) hx hb d_m_back_21 (by decide) (fun h4 => ?_) (fun h4 => ?_)
    · replace hF := (if_neg h4).symm.trans hF
      refine lv_iconst (v := 0) hx hb d_m_back_28 (by decide) ?_
      exact B29 a1 0 z3 hF _ _ _ _ _ hW hS (lv_sub hl [0, 1] rfl) (by omega) (by omega)
    · replace hF := (if_pos h4).symm.trans hF
      refine lv_iconst (v := 1) hx hb d_m_back_24 (by decide) ?_
      refine lv_goto (tgt := 29) hx hb d_m_back_25 (by decide) ?_
      exact B29 a1 1 z3 hF _ _ _ _ _ hW hS (lv_sub hl [0, 1] rfl) (by omega) (by omega)
