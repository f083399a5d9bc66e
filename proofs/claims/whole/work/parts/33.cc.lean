/-! contracts: the method does what its pure function says -/
set_option maxRecDepth 100000 in
set_option maxHeartbeats 4000000 in
theorem c_b_leavesOnArrival_ok (l : Launch) (hl0 : l.stackTraces = false) {L : Nat → Nat → Nat} {Ar : Nat → ClassId} {D : va_G} {b0 : Nat} (hLi : f_L L b0) (a1 : Int32)  (z : fST) (r : Int32) (z' : fST) (hF : F_b_leavesOnArrival a1 z = some (r, z')) : f_C l y_b_leavesOnArrival wt 5 0 L Ar D b0 [.ref (L 0 0), .int a1] z (.inl (some (.int r))) z' := by
  refine f_ofW (cc := c_b_leavesOnArrival) (maxL := 3) (ret := (some FieldType.boolean)) (by decide) w_b_leavesOnArrival (Nat.le_of_ble_eq_true rfl) ?_
  intro p e s m args below meth c R hRf hRl hRc hRs hx hb hr hlk hml hno hts hown hK hZ hsz
  intro H locs ls cells slots hW hS hl hc hs
  have hl : lv_has ls 3 [(0, .ref (L 0 0)), (1, .int a1)] := hl
  unfold F_b_leavesOnArrival at hF
  refine lv_aload_n hx hb d_b_leavesOnArrival_0 rfl (lv_at hl 0 rfl) ?_
  refine hw_get (k := 0) (i := 0) (n := 1) (j := 1) (v := .ref (L 11 0)) hx hb hts hown hK hW fl_b_19 rfl (by omega) rfl d_b_leavesOnArrival_1 ?_
  refine hw_get (k := 11) (i := 0) (n := 1) (j := 0) (v := .ref (L 12 0)) hx hb hts hown hK hW fl_b_232 rfl (by omega) rfl d_b_leavesOnArrival_4 ?_
  refine lv_iload_n hx hb d_b_leavesOnArrival_7 rfl (lv_at hl 1 rfl) ?_
  obtain ⟨g1, hF⟩ := f_gd_some hF
  obtain ⟨g2, hF⟩ := f_gd_some hF
  have g2 := of_decide_eq_true g2
  refine hw_rald hx hb hK hW g1 d_b_leavesOnArrival_8 ?_
  refine lv_astore_n (lv' := [(2, .ref (L 13 (f_gR z (f_ix a1)))), (0, .ref (L 0 0)), (1, .int a1)]) hx hb d_b_leavesOnArrival_9 rfl hl (by decide) rfl (fun ls hl => ?_)
  refine lv_aload_n hx hb d_b_leavesOnArrival_10 rfl (lv_at hl 0 rfl) ?_
  obtain ⟨v3, z3, hc3, hF⟩ := f_bd_some hF
  refine hw_VR (k := 13) (i := f_gR z (f_ix a1)) (nk := 16) (As := []) (rest := []) hx hb hml hown hts (c_co_rear_ok l hl0 hLi (f_gR z (f_ix a1)) (by omega) _ _ _ hc3) st_b_257 (by decide) rfl (by omega) rfl rfl hK hZ hsz hS hW rfl hl.1 (Nat.le_of_ble_eq_true rfl) d_b_leavesOnArrival_11 (by omega) (by omega) (by omega) (by omega) (fun H locs hW hS => ?_)
  refine lv_bipush (v := 60) hx hb d_b_leavesOnArrival_14 (by decide) ?_
  refine lv_icmp_ne (tgt := 27) hx hb d_b_leavesOnArrival_16 (by decide) (fun h4 => ?_) (fun h4 => ?_)
  · replace hF := (if_neg h4).symm.trans hF
    refine lv_aload_n hx hb d_b_leavesOnArrival_27 rfl (lv_at hl 0 rfl) ?_
    refine hw_get (k := 13) (i := f_gR z (f_ix a1)) (n := 16) (j := 4) (v := .int (f_gI z3 13 (f_gR z (f_ix a1)) 4)) hx hb hts hown hK hW fl_b_216 rfl (by omega) rfl d_b_leavesOnArrival_28 ?_
    refine lv_bipush (v := 105) hx hb d_b_leavesOnArrival_31 (by decide) ?_
    refine lv_icmp_ne (tgt := 44) hx hb d_b_leavesOnArrival_33 (by decide) (fun h5 => ?_) (fun h5 => ?_)
    · replace hF := (if_neg h5).symm.trans hF
      refine lv_aload_n hx hb d_b_leavesOnArrival_44 rfl (lv_at hl 0 rfl) ?_
      obtain ⟨v6, z6, hc6, hF⟩ := f_bd_some hF
      refine hw_VR (k := 13) (i := f_gR z (f_ix a1)) (nk := 16) (As := []) (rest := []) hx hb hml hown hts (c_co_rear_ok l hl0 hLi (f_gR z (f_ix a1)) (by omega) _ _ _ hc6) st_b_257 (by decide) rfl (by omega) rfl rfl hK hZ hsz hS hW rfl hl.1 (Nat.le_of_ble_eq_true rfl) d_b_leavesOnArrival_45 (by omega) (by omega) (by omega) (by omega) (fun H locs hW hS => ?_)
      refine lv_bipush (v := 110) hx hb d_b_leavesOnArrival_48 (by decide) ?_
      refine lv_icmp_ne (tgt := 59) hx hb d_b_leavesOnArrival_50 (by decide) (fun h7 => ?_) (fun h7 => ?_)
      · replace hF := (if_neg h7).symm.trans hF
        refine lv_iconst (v := 0) hx hb d_b_leavesOnArrival_59 (by decide) ?_
        exact hw_iret hx hb hr hlk (f_nZ (Or.inl rfl)) hW hS (by omega) (by omega) d_b_leavesOnArrival_60 hF
      · replace hF := (if_pos h7).symm.trans hF
        refine lv_aload_n hx hb d_b_leavesOnArrival_53 rfl (lv_at hl 1 rfl) ?_
        refine lv_iload_n hx hb d_b_leavesOnArrival_54 rfl (lv_at hl 2 rfl) ?_
        obtain ⟨v8, z8, hc8, hF⟩ := f_bd_some hF
        refine hw_VR (k := 0) (i := 0) (nk := 1) (As := [.int a1]) (rest := []) hx hb hml hown hts (c_b_intoBin_ok l hl0 hLi a1  _ _ _ hc8) st_b_267 (by decide) rfl (by omega) rfl rfl hK hZ hsz hS hW rfl hl.1 (Nat.le_of_ble_eq_true rfl) d_b_leavesOnArrival_55 (by omega) (by omega) (by omega) (by omega) (fun H locs hW hS => ?_)
        obtain ⟨g9, hF⟩ := f_gd_some hF
        exact hw_iret hx hb hr hlk (f_nZ (f_bz_or g9)) hW hS (by omega) (by omega) d_b_leavesOnArrival_58 hF
    · replace hF := (if_pos h5).symm.trans hF
      refine lv_aload_n hx hb d_b_leavesOnArrival_36 rfl (lv_at hl 1 rfl) ?_
      refine lv_aload_n hx hb d_b_leavesOnArrival_37 rfl (lv_at hl 0 rfl) ?_
      obtain ⟨v10, z10, hc10, hF⟩ := f_bd_some hF
      refine hw_VR (k := 0) (i := 0) (nk := 1) (As := [.ref (L 13 (f_gR z (f_ix a1)))]) (rest := []) hx hb hml hown hts (c_b_pay_ok l hl0 hLi (f_gR z (f_ix a1)) (by omega) _ _ _ hc10) st_b_264 (by decide) rfl (by omega) rfl rfl hK hZ hsz hS hW rfl hl.1 (Nat.le_of_ble_eq_true rfl) d_b_leavesOnArrival_38 (by omega) (by omega) (by omega) (by omega) (fun H locs hW hS => ?_)
      refine lv_goto (tgt := 59) hx hb d_b_leavesOnArrival_41 (by decide) ?_
      refine lv_iconst (v := 0) hx hb d_b_leavesOnArrival_59 (by decide) ?_
      exact hw_iret hx hb hr hlk (f_nZ (Or.inl rfl)) hW hS (by omega) (by omega) d_b_leavesOnArrival_60 hF
  · replace hF := (if_pos h4).symm.trans hF
    refine lv_aload_n hx hb d_b_leavesOnArrival_19 rfl (lv_at hl 1 rfl) ?_
    refine lv_aload_n hx hb d_b_leavesOnArrival_20 rfl (lv_at hl 0 rfl) ?_
    obtain ⟨v11, z11, hc11, hF⟩ := f_bd_some hF
    refine hw_VR (k := 0) (i := 0) (nk := 1) (As := [.ref (L 13 (f_gR z (f_ix a1)))]) (rest := []) hx hb hml hown hts (c_b_judge_ok l hl0 hLi (f_gR z (f_ix a1)) (by omega) _ _ _ hc11) st_b_260 (by decide) rfl (by omega) rfl rfl hK hZ hsz hS hW rfl hl.1 (Nat.le_of_ble_eq_true rfl) d_b_leavesOnArrival_21 (by omega) (by omega) (by omega) (by omega) (fun H locs hW hS => ?_)
    refine lv_goto (tgt := 59) hx hb d_b_leavesOnArrival_24 (by decide) ?_
    refine lv_iconst (v := 0) hx hb d_b_leavesOnArrival_59 (by decide) ?_
    exact hw_iret hx hb hr hlk (f_nZ (Or.inl rfl)) hW hS (by omega) (by omega) d_b_leavesOnArrival_60 hF
set_option maxRecDepth 100000 in
set_option maxHeartbeats 4000000 in
theorem c_b_stepForward_ok (l : Launch) (hl0 : l.stackTraces = false) {L : Nat → Nat → Nat} {Ar : Nat → ClassId} {D : va_G} {b0 : Nat} (hLi : f_L L b0)   (z : fST) (r : Unit) (z' : fST) (hF : F_b_stepForward  z = some (r, z')) : f_C l y_b_stepForward wt 6 0 L Ar D b0 [.ref (L 0 0)] z (.inl none) z' := by
  refine f_ofW (cc := c_b_stepForward) (maxL := 3) (ret := (Option.none : Option Jvm.ClassFile.FieldType)) (by decide) w_b_stepForward (Nat.le_of_ble_eq_true rfl) ?_
  intro p e s m args below meth c R hRf hRl hRc hRs hx hb hr hlk hml hno hts hown hK hZ hsz
  have B42 : ∀ (k17 : Int32 × Int32 × fST → Option (Unit × fST)) (K17 : ∀ (x1 : Int32) (x2 : Int32) (z : fST), k17 (x1, x2, z) = some (r, z') →  f_B p l e R s m args below meth c L Ar D b0 3 0 (f_E below args s L Ar D b0 0 (.inl none) z') 0 17 [(0, .ref (L 0 0)), (1, .int x1), (2, .int x2)] [] z) (x1 : Int32) (x2 : Int32) (z : fST), b_b_stepForward_42 k17 x1 x2 z = some (r, z') →  f_B p l e R s m args below meth c L Ar D b0 3 0 (f_E below args s L Ar D b0 0 (.inl none) z') 0 42 [(0, .ref (L 0 0)), (1, .int x1), (2, .int x2)] [] z := by
    intro k17 K17 x1 x2 z hF  H locs ls cells slots hW hS hl hc hs
    unfold b_b_stepForward_42 at hF
    refine lv_iinc (k := 2) (x := x2) (v := x2 + (-1)) (lv' := [(2, .int (x2 + (-1))), (0, .ref (L 0 0)), (1, .int x1)]) hx hb d_b_stepForward_42 hl rfl rfl (by decide) rfl (fun ls hl => ?_)
    refine lv_goto (tgt := 17) hx hb d_b_stepForward_45 (by decide) ?_
    exact K17 x1 (x2 + (-1)) z hF _ _ _ _ _ hW hS (lv_sub hl [1, 2, 0] rfl) (by omega) (by omega)
  have B17 : ∀  (n : Nat) (x1 : Int32) (x2 : Int32) (z : fST), f_it (b_b_stepForward_17 ) n (x1, x2, z) = some (r, z') →  f_B p l e R s m args below meth c L Ar D b0 3 0 (f_E below args s L Ar D b0 0 (.inl none) z') 0 17 [(0, .ref (L 0 0)), (1, .int x1), (2, .int x2)] [] z := by
    intro  n
    induction n with
    | zero => intro x1 x2 z hF; cases hF
    | succ n ih =>
    intro x1 x2 z hF  H locs ls cells slots hW hS hl hc hs
    replace hF := f_it_s hF
    have K17 : ∀ (x1 : Int32) (x2 : Int32) (z : fST), f_it (b_b_stepForward_17 ) n (x1, x2, z) = some (r, z') →  f_B p l e R s m args below meth c L Ar D b0 3 0 (f_E below args s L Ar D b0 0 (.inl none) z') 0 17 [(0, .ref (L 0 0)), (1, .int x1), (2, .int x2)] [] z := fun x1 x2 z hF => ih x1 x2 z hF
    generalize f_it (b_b_stepForward_17 ) n = k17 at hF K17
    unfold b_b_stepForward_17 at hF
    dsimp only at hF
    refine lv_iload_n hx hb d_b_stepForward_17 rfl (lv_at hl 2 rfl) ?_
    refine lv_if_le (tgt := 48) hx hb d_b_stepForward_18 (by decide) (fun h2 => ?_) (fun h2 => ?_)
    · replace hF := (if_pos h2).symm.trans hF
      exact hw_vret hx hb hr hlk hW hS (by omega) (by omega) d_b_stepForward_48 hF
    · replace hF := (if_neg h2).symm.trans hF
      refine lv_aload_n hx hb d_b_stepForward_21 rfl (lv_at hl 0 rfl) ?_
      refine hw_get (k := 0) (i := 0) (n := 1) (j := 4) (v := .ref (L 23 0)) hx hb hts hown hK hW fl_b_40 rfl (by omega) rfl d_b_stepForward_22 ?_
      refine hw_get (k := 23) (i := 0) (n := 1) (j := 2) (v := .int (f_gI z 23 0 2)) hx hb hts hown hK hW fl_b_116 rfl (by omega) rfl d_b_stepForward_25 ?_
      refine lv_if_eq (tgt := 48) hx hb d_b_stepForward_28 (by decide) (fun h3 => ?_) (fun h3 => ?_)
      · replace hF := (if_pos h3).symm.trans hF
        exact hw_vret hx hb hr hlk hW hS (by omega) (by omega) d_b_stepForward_48 hF
      · replace hF := (if_neg h3).symm.trans hF
        refine lv_aload_n hx hb d_b_stepForward_31 rfl (lv_at hl 0 rfl) ?_
        refine lv_iload_n hx hb d_b_stepForward_32 rfl (lv_at hl 1 rfl) ?_
        obtain ⟨v4, z4, hc4, hF⟩ := f_bd_some hF
        refine hw_VR (k := 0) (i := 0) (nk := 1) (As := [.int x1]) (rest := []) hx hb hml hown hts (c_b_leavesOnArrival_ok l hl0 hLi x1  _ _ _ hc4) st_b_254 (by decide) rfl (by omega) rfl rfl hK hZ hsz hS hW rfl hl.1 (Nat.le_of_ble_eq_true rfl) d_b_stepForward_33 (by omega) (by omega) (by omega) (by omega) (fun H locs hW hS => ?_)
        refine lv_if_ne (tgt := 42) hx hb d_b_stepForward_36 (by decide) (fun h5 => ?_) (fun h5 => ?_)
        · replace hF := (if_neg h5).symm.trans hF
          exact B42 k17 K17 x1 x2 z4 hF _ _ _ _ _ hW hS (lv_sub hl [0, 1, 2] rfl) (by omega) (by omega)
        · replace hF := (if_pos h5).symm.trans hF
          refine lv_iinc (k := 1) (x := x1) (v := x1 + 1) (lv' := [(1, .int (x1 + 1)), (0, .ref (L 0 0)), (2, .int x2)]) hx hb d_b_stepForward_39 hl rfl rfl (by decide) rfl (fun ls hl => ?_)
          exact B42 k17 K17 (x1 + 1) x2 z4 hF _ _ _ _ _ hW hS (lv_sub hl [1, 0, 2] rfl) (by omega) (by omega)
  intro H locs ls cells slots hW hS hl hc hs
  have hl : lv_has ls 3 [(0, .ref (L 0 0))] := hl
  unfold F_b_stepForward at hF
  refine lv_aload_n hx hb d_b_stepForward_0 rfl (lv_at hl 0 rfl) ?_
  refine hw_get (k := 0) (i := 0) (n := 1) (j := 1) (v := .ref (L 11 0)) hx hb hts hown hK hW fl_b_19 rfl (by omega) rfl d_b_stepForward_1 ?_
  obtain ⟨v1, z1, hc1, hF⟩ := f_bd_some hF
  refine hw_VR (k := 11) (i := 0) (nk := 1) (As := []) (rest := []) hx hb hml hown hts (c_be_moveUp_ok l hl0 hLi   _ _ _ hc1) st_b_251 (by decide) rfl (by omega) rfl rfl hK hZ hsz hS hW rfl hl.1 (Nat.le_of_ble_eq_true rfl) d_b_stepForward_4 (by omega) (by omega) (by omega) (by omega) (fun H locs hW hS => ?_)
  refine lv_iconst (v := 0) hx hb d_b_stepForward_7 (by decide) ?_
  refine lv_istore_n (lv' := [(1, .int 0), (0, .ref (L 0 0))]) hx hb d_b_stepForward_8 rfl hl (by decide) rfl (fun ls hl => ?_)
  refine lv_aload_n hx hb d_b_stepForward_9 rfl (lv_at hl 1 rfl) ?_
  refine hw_get (k := 0) (i := 0) (n := 1) (j := 1) (v := .ref (L 11 0)) hx hb hts hown hK hW fl_b_19 rfl (by omega) rfl d_b_stepForward_10 ?_
  refine hw_get (k := 11) (i := 0) (n := 1) (j := 1) (v := .int (f_gI z1 11 0 1)) hx hb hts hown hK hW fl_b_127 rfl (by omega) rfl d_b_stepForward_13 ?_
  refine lv_istore_n (lv' := [(2, .int (f_gI z1 11 0 1)), (1, .int 0), (0, .ref (L 0 0))]) hx hb d_b_stepForward_16 rfl hl (by decide) rfl (fun ls hl => ?_)
  exact B17 2000 0 (f_gI z1 11 0 1) z1 hF _ _ _ _ _ hW hS (lv_sub hl [2, 1, 0] rfl) (by omega) (by omega)
set_option maxRecDepth 100000 in
set_option maxHeartbeats 4000000 in
theorem c_b_forward_ok (l : Launch) (hl0 : l.stackTraces = false) {L : Nat → Nat → Nat} {Ar : Nat → ClassId} {D : va_G} {b0 : Nat} (hLi : f_L L b0) (a1 : Int32)  (z : fST) (r : Int32 ⊕ Nat) (z' : fST) (hF : F_b_forward a1 z = some (r, z')) : f_C l y_b_forward wt 8 2 L Ar D b0 [.ref (L 0 0), .int a1] z (f_oi r) z' := by
  refine f_ofW (cc := c_b_forward) (maxL := 3) (ret := (some FieldType.int)) (by decide) w_b_forward (Nat.le_of_ble_eq_true rfl) ?_
  intro p e s m args below meth c R hRf hRl hRc hRs hx hb hr hlk hml hno hts hown hK hZ hsz
  have B17 : ∀  (n : Nat) (x1 : Int32) (x2 : Int32) (z : fST), f_it (b_b_forward_17 ) n (x1, x2, z) = some (r, z') →  f_B p l e R s m args below meth c L Ar D b0 3 2 (f_E below args s L Ar D b0 2 (f_oi r) z') 0 17 [(0, .ref (L 0 0)), (1, .int x1), (2, .int x2)] [] z := by
    intro  n
    induction n with
    | zero => intro x1 x2 z hF; cases hF
    | succ n ih =>
    intro x1 x2 z hF  H locs ls cells slots hW hS hl hc hs
    replace hF := f_it_s hF
    have K17 : ∀ (x1 : Int32) (x2 : Int32) (z : fST), f_it (b_b_forward_17 ) n (x1, x2, z) = some (r, z') →  f_B p l e R s m args below meth c L Ar D b0 3 2 (f_E below args s L Ar D b0 2 (f_oi r) z') 0 17 [(0, .ref (L 0 0)), (1, .int x1), (2, .int x2)] [] z := fun x1 x2 z hF => ih x1 x2 z hF
    generalize f_it (b_b_forward_17 ) n = k17 at hF K17
    unfold b_b_forward_17 at hF
    dsimp only at hF
    refine lv_iload_n hx hb d_b_forward_17 rfl (lv_at hl 2 rfl) ?_
    refine lv_iload_n hx hb d_b_forward_18 rfl (lv_at hl 1 rfl) ?_
    refine lv_icmp_ge (tgt := 52) hx hb d_b_forward_19 (by decide) (fun h4 => ?_) (fun h4 => ?_)
    · replace hF := (if_pos h4).symm.trans hF
      refine lv_iload_n hx hb d_b_forward_52 rfl (lv_at hl 2 rfl) ?_
      exact hw_iretX hx hb hr hlk (vp_nar_int _) hW hS (by omega) (by omega) d_b_forward_53 hF
    · replace hF := (if_neg h4).symm.trans hF
      refine lv_aload_n hx hb d_b_forward_22 rfl (lv_at hl 0 rfl) ?_
      refine hw_get (k := 0) (i := 0) (n := 1) (j := 4) (v := .ref (L 23 0)) hx hb hts hown hK hW fl_b_40 rfl (by omega) rfl d_b_forward_23 ?_
      refine hw_get (k := 23) (i := 0) (n := 1) (j := 2) (v := .int (f_gI z 23 0 2)) hx hb hts hown hK hW fl_b_116 rfl (by omega) rfl d_b_forward_26 ?_
      refine lv_if_eq (tgt := 52) hx hb d_b_forward_29 (by decide) (fun h5 => ?_) (fun h5 => ?_)
      · replace hF := (if_pos h5).symm.trans hF
        refine lv_iload_n hx hb d_b_forward_52 rfl (lv_at hl 2 rfl) ?_
        exact hw_iretX hx hb hr hlk (vp_nar_int _) hW hS (by omega) (by omega) d_b_forward_53 hF
      · replace hF := (if_neg h5).symm.trans hF
        refine lv_aload_n hx hb d_b_forward_32 rfl (lv_at hl 0 rfl) ?_
        refine hw_get (k := 0) (i := 0) (n := 1) (j := 1) (v := .ref (L 11 0)) hx hb hts hown hK hW fl_b_19 rfl (by omega) rfl d_b_forward_33 ?_
        obtain ⟨v6, z6, hc6, hF⟩ := f_bd_some hF
        refine hw_VR (k := 11) (i := 0) (nk := 1) (As := []) (rest := []) hx hb hml hown hts (c_be_isBlocked_ok l hl0 hLi   _ _ _ hc6) st_b_120 (by decide) rfl (by omega) rfl rfl hK hZ hsz hS hW rfl hl.1 (Nat.le_of_ble_eq_true rfl) d_b_forward_36 (by omega) (by omega) (by omega) (by omega) (fun H locs hW hS => ?_)
        refine lv_if_ne (tgt := 52) hx hb d_b_forward_39 (by decide) (fun h7 => ?_) (fun h7 => ?_)
        · replace hF := (if_neg h7).symm.trans hF
          refine lv_iload_n hx hb d_b_forward_52 rfl (lv_at hl 2 rfl) ?_
          exact hw_iretX hx hb hr hlk (vp_nar_int _) hW hS (by omega) (by omega) d_b_forward_53 hF
        · replace hF := (if_pos h7).symm.trans hF
          refine lv_aload_n hx hb d_b_forward_42 rfl (lv_at hl 0 rfl) ?_
          obtain ⟨v8, z8, hc8, hF⟩ := f_bd_some hF
          refine hw_VR (k := 0) (i := 0) (nk := 1) (As := []) (rest := []) hx hb hml hown hts (c_b_stepForward_ok l hl0 hLi   _ _ _ hc8) st_b_124 (by decide) rfl (by omega) rfl rfl hK hZ hsz hS hW rfl hl.1 (Nat.le_of_ble_eq_true rfl) d_b_forward_43 (by omega) (by omega) (by omega) (by omega) (fun H locs hW hS => ?_)
          refine lv_iinc (k := 2) (x := x2) (v := x2 + 1) (lv' := [(2, .int (x2 + 1)), (0, .ref (L 0 0)), (1, .int x1)]) hx hb d_b_forward_46 hl rfl rfl (by decide) rfl (fun ls hl => ?_)
          refine lv_goto (tgt := 17) hx hb d_b_forward_49 (by decide) ?_
          exact K17 x1 (x2 + 1) z8 hF _ _ _ _ _ hW hS (lv_sub hl [1, 2, 0] rfl) (by omega) (by omega)
  intro H locs ls cells slots hW hS hl hc hs
  have hl : lv_has ls 3 [(0, .ref (L 0 0)), (1, .int a1)] := hl
  unfold F_b_forward at hF
  refine lv_aload_n hx hb d_b_forward_0 rfl (lv_at hl 0 rfl) ?_
  rcases f_bx_some hF with ⟨v1, z1, hc1, hF⟩ | ⟨v1, z1, hc1, hF⟩
  · skip
    refine hw_VR (k := 0) (i := 0) (nk := 1) (As := []) (rest := []) hx hb hml hown hts (c_b_requireOn_ok l hl0 hLi   _ _ _ hc1) st_b_55 (by decide) rfl (by omega) rfl rfl hK hZ hsz hS hW rfl hl.1 (Nat.le_of_ble_eq_true rfl) d_b_forward_1 (by omega) (by omega) (by omega) (by omega) (fun H locs hW hS => ?_)
    refine lv_iload_n hx hb d_b_forward_4 rfl (lv_at hl 1 rfl) ?_
    refine lv_iconst (v := 0) hx hb d_b_forward_5 (by decide) ?_
    refine lv_sipush (v := 300) hx hb d_b_forward_6 (by decide) ?_
    obtain ⟨v2, z2, hc2, hF⟩ := f_bd_some hF
    refine hw_SR (As := [.int a1, .int 0, .int 300]) (rest := []) hx hb hml hown hts (c_b_isWithin_ok l hl0 hLi a1 0 300  _ _ _ hc2) st_b_66 hK hZ hsz hS hW rfl hl.1 (Nat.le_of_ble_eq_true rfl) d_b_forward_9 (by omega) (by omega) (by omega) (by omega) (fun H locs hW hS => ?_)
    rcases f_bx_some hF with ⟨v3, z3, hc3, hF⟩ | ⟨v3, z3, hc3, hF⟩
    · skip
      refine hw_SR (As := [.int v2]) (rest := []) hx hb hml hown hts (c_b_require_ok l hl0 hLi v2  _ _ _ hc3) st_b_62 hK hZ hsz hS hW rfl hl.1 (Nat.le_of_ble_eq_true rfl) d_b_forward_12 (by omega) (by omega) (by omega) (by omega) (fun H locs hW hS => ?_)
      refine lv_iconst (v := 0) hx hb d_b_forward_15 (by decide) ?_
      refine lv_istore_n (lv' := [(2, .int 0), (0, .ref (L 0 0)), (1, .int a1)]) hx hb d_b_forward_16 rfl hl (by decide) rfl (fun ls hl => ?_)
      exact B17 2000 a1 0 z3 hF _ _ _ _ _ hW hS (lv_sub hl [1, 2, 0] rfl) (by omega) (by omega)
    · cases hF
      exact hw_SX (As := [.int v2]) (rest := []) hx hb hml hown hts (c_b_require_ok l hl0 hLi v2  _ _ _ hc3) st_b_62 hK hZ hsz hS hW rfl hl.1 (Nat.le_of_ble_eq_true rfl) d_b_forward_12 (by omega) (by omega) (by omega) (by omega) (fun q ce H locs hW hS hq hv hcl => hw_out (fun x hx => (hno x hx).elim) hlk hW hS hq hv hcl (by omega) (by omega))
  · cases hF
    exact hw_VX (k := 0) (i := 0) (nk := 1) (As := []) (rest := []) hx hb hml hown hts (c_b_requireOn_ok l hl0 hLi   _ _ _ hc1) st_b_55 (by decide) rfl (by omega) rfl rfl hK hZ hsz hS hW rfl hl.1 (Nat.le_of_ble_eq_true rfl) d_b_forward_1 (by omega) (by omega) (by omega) (by omega) (fun q ce H locs hW hS hq hv hcl => hw_out (fun x hx => (hno x hx).elim) hlk hW hS hq hv hcl (by omega) (by omega))
set_option maxRecDepth 100000 in
set_option maxHeartbeats 4000000 in
theorem c_be_moveDownAt_ok (l : Launch) (hl0 : l.stackTraces = false) {L : Nat → Nat → Nat} {Ar : Nat → ClassId} {D : va_G} {b0 : Nat} (hLi : f_L L b0) (a1 : Int32)  (z : fST) (r : Unit) (z' : fST) (hF : F_be_moveDownAt a1 z = some (r, z')) : f_C l y_be_moveDownAt wt 2 0 L Ar D b0 [.ref (L 11 0), .int a1] z (.inl none) z' := by
  refine f_ofW (cc := c_be_moveDownAt) (maxL := 3) (ret := (Option.none : Option Jvm.ClassFile.FieldType)) (by decide) w_be_moveDownAt (Nat.le_of_ble_eq_true rfl) ?_
  intro p e s m args below meth c R hRf hRl hRc hRs hx hb hr hlk hml hno hts hown hK hZ hsz
  have B30 : ∀  (x1 : Int32) (x2 : Nat) (z : fST), b_be_moveDownAt_30  x1 x2 z = some (r, z') → x2 < 16 → f_B p l e R s m args below meth c L Ar D b0 3 0 (f_E below args s L Ar D b0 0 (.inl none) z') 0 30 [(0, .ref (L 11 0)), (1, .int x1), (2, .ref (L 13 x2))] [] z := by
    intro  x1 x2 z hF h_x2 H locs ls cells slots hW hS hl hc hs
    unfold b_be_moveDownAt_30 at hF
    refine lv_aload_n hx hb d_be_moveDownAt_30 rfl (lv_at hl 2 rfl) ?_
    refine hw_get (k := 13) (i := x2) (n := 16) (j := 4) (v := .int (f_gI z 13 x2 4)) hx hb hts hown hK hW fl_be_40 rfl (by omega) rfl d_be_moveDownAt_31 ?_
    refine lv_if_ge (tgt := 42) hx hb d_be_moveDownAt_34 (by decide) (fun h6 => ?_) (fun h6 => ?_)
    · replace hF := (if_pos h6).symm.trans hF
      exact hw_vret hx hb hr hlk hW hS (by omega) (by omega) d_be_moveDownAt_42 hF
    · replace hF := (if_neg h6).symm.trans hF
      refine lv_aload_n hx hb d_be_moveDownAt_37 rfl (lv_at hl 0 rfl) ?_
      refine lv_iload_n hx hb d_be_moveDownAt_38 rfl (lv_at hl 1 rfl) ?_
      obtain ⟨v7, z7, hc7, hF⟩ := f_bd_some hF
      refine hw_VR (k := 11) (i := 0) (nk := 1) (As := [.int x1]) (rest := []) hx hb hml hown hts (c_be_takeOff_ok l hl0 hLi x1  _ _ _ hc7) st_be_53 (by decide) rfl (by omega) rfl rfl hK hZ hsz hS hW rfl hl.1 (Nat.le_of_ble_eq_true rfl) d_be_moveDownAt_39 (by omega) (by omega) (by omega) (by omega) (fun H locs hW hS => ?_)
      exact hw_vret hx hb hr hlk hW hS (by omega) (by omega) d_be_moveDownAt_42 hF
  intro H locs ls cells slots hW hS hl hc hs
  have hl : lv_has ls 3 [(0, .ref (L 11 0)), (1, .int a1)] := hl
  unfold F_be_moveDownAt at hF
  refine lv_aload_n hx hb d_be_moveDownAt_0 rfl (lv_at hl 0 rfl) ?_
  refine hw_get (k := 11) (i := 0) (n := 1) (j := 0) (v := .ref (L 12 0)) hx hb hts hown hK hW fl_be_11 rfl (by omega) rfl d_be_moveDownAt_1 ?_
  refine lv_iload_n hx hb d_be_moveDownAt_4 rfl (lv_at hl 1 rfl) ?_
  obtain ⟨g1, hF⟩ := f_gd_some hF
  obtain ⟨g2, hF⟩ := f_gd_some hF
  have g2 := of_decide_eq_true g2
  refine hw_rald hx hb hK hW g1 d_be_moveDownAt_5 ?_
  refine lv_astore_n (lv' := [(2, .ref (L 13 (f_gR z (f_ix a1)))), (0, .ref (L 11 0)), (1, .int a1)]) hx hb d_be_moveDownAt_6 rfl hl (by decide) rfl (fun ls hl => ?_)
  refine lv_aload_n hx hb d_be_moveDownAt_7 rfl (lv_at hl 0 rfl) ?_
  refine lv_dup hx hb d_be_moveDownAt_8 rfl ?_
  refine hw_get (k := 13) (i := f_gR z (f_ix a1)) (n := 16) (j := 4) (v := .int (f_gI z 13 (f_gR z (f_ix a1)) 4)) hx hb hts hown hK hW fl_be_40 rfl (by omega) rfl d_be_moveDownAt_9 ?_
  refine lv_iconst (v := 1) hx hb d_be_moveDownAt_12 (by decide) ?_
  refine lv_isub hx hb d_be_moveDownAt_13 ?_
  refine hw_put (k := 13) (i := f_gR z (f_ix a1)) (n := 16) (j := 4) (v := (f_gI z 13 (f_gR z (f_ix a1)) 4) - 1) hx hb hts hown hK hLi hW hS fp_be_40 (vp_nar_int _) rfl rfl (by omega) d_be_moveDownAt_14 (fun H locs hW hS => ?_)
  refine lv_aload_n hx hb d_be_moveDownAt_17 rfl (lv_at hl 0 rfl) ?_
  obtain ⟨v3, z3, hc3, hF⟩ := f_bd_some hF
  refine hw_VR (k := 13) (i := f_gR z (f_ix a1)) (nk := 16) (As := []) (rest := []) hx hb hml hown hts (c_co_rear_ok l hl0 hLi (f_gR z (f_ix a1)) (by omega) _ _ _ hc3) st_be_22 (by decide) rfl (by omega) rfl rfl hK hZ hsz hS hW rfl hl.1 (Nat.le_of_ble_eq_true rfl) d_be_moveDownAt_18 (by omega) (by omega) (by omega) (by omega) (fun H locs hW hS => ?_)
  refine lv_bipush (v := 59) hx hb d_be_moveDownAt_21 (by decide) ?_
  refine lv_icmp_ne (tgt := 30) hx hb d_be_moveDownAt_23 (by decide) (fun h4 => ?_) (fun h4 => ?_)
  · replace hF := (if_neg h4).symm.trans hF
    exact B30 a1 (f_gR z (f_ix a1)) z3 hF (by omega) _ _ _ _ _ hW hS (lv_sub hl [1, 2, 0] rfl) (by omega) (by omega)
  · replace hF := (if_pos h4).symm.trans hF
    refine lv_aload_n hx hb d_be_moveDownAt_26 rfl (lv_at hl 0 rfl) ?_
    obtain ⟨v5, z5, hc5, hF⟩ := f_bd_some hF
    refine hw_VR (k := 13) (i := f_gR z (f_ix a1)) (nk := 16) (As := []) (rest := []) hx hb hml hown hts (c_co_forget_ok l hl0 hLi (f_gR z (f_ix a1)) (by omega) _ _ _ hc5) st_be_50 (by decide) rfl (by omega) rfl rfl hK hZ hsz hS hW rfl hl.1 (Nat.le_of_ble_eq_true rfl) d_be_moveDownAt_27 (by omega) (by omega) (by omega) (by omega) (fun H locs hW hS => ?_)
    exact B30 a1 (f_gR z (f_ix a1)) z5 hF (by omega) _ _ _ _ _ hW hS (lv_sub hl [1, 2, 0] rfl) (by omega) (by omega)
set_option maxRecDepth 100000 in
set_option maxHeartbeats 4000000 in
theorem c_be_moveDown_ok (l : Launch) (hl0 : l.stackTraces = false) {L : Nat → Nat → Nat} {Ar : Nat → ClassId} {D : va_G} {b0 : Nat} (hLi : f_L L b0)   (z : fST) (r : Int32) (z' : fST) (hF : F_be_moveDown  z = some (r, z')) : f_C l y_be_moveDown wt 3 0 L Ar D b0 [.ref (L 11 0)] z (.inl (some (.int r))) z' := by
  refine f_ofW (cc := c_be_moveDown) (maxL := 3) (ret := (some FieldType.boolean)) (by decide) w_be_moveDown (Nat.le_of_ble_eq_true rfl) ?_
  intro p e s m args below meth c R hRf hRl hRc hRs hx hb hr hlk hml hno hts hown hK hZ hsz
  have B34 : ∀ (k9 : Int32 × Int32 × fST → Option (Int32 × fST)) (K9 : ∀ (x1 : Int32) (x2 : Int32) (z : fST), k9 (x1, x2, z) = some (r, z') →  f_B p l e R s m args below meth c L Ar D b0 3 0 (f_E below args s L Ar D b0 0 (.inl (some (.int r))) z') 0 9 [(0, .ref (L 11 0)), (1, .int x1), (2, .int x2)] [] z) (x1 : Int32) (x2 : Int32) (z : fST), b_be_moveDown_34 k9 x1 x2 z = some (r, z') →  f_B p l e R s m args below meth c L Ar D b0 3 0 (f_E below args s L Ar D b0 0 (.inl (some (.int r))) z') 0 34 [(0, .ref (L 11 0)), (1, .int x1), (2, .int x2)] [] z := by
    intro k9 K9 x1 x2 z hF  H locs ls cells slots hW hS hl hc hs
    unfold b_be_moveDown_34 at hF
    refine lv_iinc (k := 2) (x := x2) (v := x2 + (-1)) (lv' := [(2, .int (x2 + (-1))), (0, .ref (L 11 0)), (1, .int x1)]) hx hb d_be_moveDown_34 hl rfl rfl (by decide) rfl (fun ls hl => ?_)
    refine lv_goto (tgt := 9) hx hb d_be_moveDown_37 (by decide) ?_
    exact K9 x1 (x2 + (-1)) z hF _ _ _ _ _ hW hS (lv_sub hl [1, 2, 0] rfl) (by omega) (by omega)
  have B9 : ∀  (n : Nat) (x1 : Int32) (x2 : Int32) (z : fST), f_it (b_be_moveDown_9 ) n (x1, x2, z) = some (r, z') →  f_B p l e R s m args below meth c L Ar D b0 3 0 (f_E below args s L Ar D b0 0 (.inl (some (.int r))) z') 0 9 [(0, .ref (L 11 0)), (1, .int x1), (2, .int x2)] [] z := by
    intro  n
    induction n with
    | zero => intro x1 x2 z hF; cases hF
    | succ n ih =>
    intro x1 x2 z hF  H locs ls cells slots hW hS hl hc hs
    replace hF := f_it_s hF
    have K9 : ∀ (x1 : Int32) (x2 : Int32) (z : fST), f_it (b_be_moveDown_9 ) n (x1, x2, z) = some (r, z') →  f_B p l e R s m args below meth c L Ar D b0 3 0 (f_E below args s L Ar D b0 0 (.inl (some (.int r))) z') 0 9 [(0, .ref (L 11 0)), (1, .int x1), (2, .int x2)] [] z := fun x1 x2 z hF => ih x1 x2 z hF
    generalize f_it (b_be_moveDown_9 ) n = k9 at hF K9
    unfold b_be_moveDown_9 at hF
    dsimp only at hF
    refine lv_iload_n hx hb d_be_moveDown_9 rfl (lv_at hl 2 rfl) ?_
    refine lv_if_lt (tgt := 40) hx hb d_be_moveDown_10 (by decide) (fun h1 => ?_) (fun h1 => ?_)
    · replace hF := (if_pos h1).symm.trans hF
      refine lv_iload_n hx hb d_be_moveDown_40 rfl (lv_at hl 1 rfl) ?_
      obtain ⟨g2, hF⟩ := f_gd_some hF
      exact hw_iret hx hb hr hlk (f_nZ (f_bz_or g2)) hW hS (by omega) (by omega) d_be_moveDown_41 hF
    · replace hF := (if_neg h1).symm.trans hF
      refine lv_aload_n hx hb d_be_moveDown_13 rfl (lv_at hl 0 rfl) ?_
      refine hw_get (k := 11) (i := 0) (n := 1) (j := 0) (v := .ref (L 12 0)) hx hb hts hown hK hW fl_be_11 rfl (by omega) rfl d_be_moveDown_14 ?_
      refine lv_iload_n hx hb d_be_moveDown_17 rfl (lv_at hl 2 rfl) ?_
      obtain ⟨g3, hF⟩ := f_gd_some hF
      obtain ⟨g4, hF⟩ := f_gd_some hF
      have g4 := of_decide_eq_true g4
      refine hw_rald hx hb hK hW g3 d_be_moveDown_18 ?_
      refine hw_get (k := 13) (i := f_gR z (f_ix x2)) (n := 16) (j := 4) (v := .int (f_gI z 13 (f_gR z (f_ix x2)) 4)) hx hb hts hown hK hW fl_be_40 rfl (by omega) rfl d_be_moveDown_19 ?_
      refine lv_bipush (v := 105) hx hb d_be_moveDown_22 (by decide) ?_
      refine lv_icmp_ge (tgt := 34) hx hb d_be_moveDown_24 (by decide) (fun h5 => ?_) (fun h5 => ?_)
      · replace hF := (if_pos h5).symm.trans hF
        exact B34 k9 K9 x1 x2 z hF _ _ _ _ _ hW hS (lv_sub hl [0, 1, 2] rfl) (by omega) (by omega)
      · replace hF := (if_neg h5).symm.trans hF
        refine lv_iconst (v := 1) hx hb d_be_moveDown_27 (by decide) ?_
        refine lv_istore_n (lv' := [(1, .int 1), (0, .ref (L 11 0)), (2, .int x2)]) hx hb d_be_moveDown_28 rfl hl (by decide) rfl (fun ls hl => ?_)
        refine lv_aload_n hx hb d_be_moveDown_29 rfl (lv_at hl 1 rfl) ?_
        refine lv_iload_n hx hb d_be_moveDown_30 rfl (lv_at hl 2 rfl) ?_
        obtain ⟨v6, z6, hc6, hF⟩ := f_bd_some hF
        refine hw_VR (k := 11) (i := 0) (nk := 1) (As := [.int x2]) (rest := []) hx hb hml hown hts (c_be_moveDownAt_ok l hl0 hLi x2  _ _ _ hc6) st_be_46 (by decide) rfl (by omega) rfl rfl hK hZ hsz hS hW rfl hl.1 (Nat.le_of_ble_eq_true rfl) d_be_moveDown_31 (by omega) (by omega) (by omega) (by omega) (fun H locs hW hS => ?_)
        exact B34 k9 K9 1 x2 z6 hF _ _ _ _ _ hW hS (lv_sub hl [1, 0, 2] rfl) (by omega) (by omega)
  intro H locs ls cells slots hW hS hl hc hs
  have hl : lv_has ls 3 [(0, .ref (L 11 0))] := hl
  unfold F_be_moveDown at hF
  refine lv_iconst (v := 0) hx hb d_be_moveDown_0 (by decide) ?_
  refine lv_istore_n (lv' := [(1, .int 0), (0, .ref (L 11 0))]) hx hb d_be_moveDown_1 rfl hl (by decide) rfl (fun ls hl => ?_)
  refine lv_aload_n hx hb d_be_moveDown_2 rfl (lv_at hl 1 rfl) ?_
  refine hw_get (k := 11) (i := 0) (n := 1) (j := 1) (v := .int (f_gI z 11 0 1)) hx hb hts hown hK hW fl_be_18 rfl (by omega) rfl d_be_moveDown_3 ?_
  refine lv_iconst (v := 1) hx hb d_be_moveDown_6 (by decide) ?_
  refine lv_isub hx hb d_be_moveDown_7 ?_
  refine lv_istore_n (lv' := [(2, .int ((f_gI z 11 0 1) - 1)), (1, .int 0), (0, .ref (L 11 0))]) hx hb d_be_moveDown_8 rfl hl (by decide) rfl (fun ls hl => ?_)
  exact B9 2000 0 ((f_gI z 11 0 1) - 1) z hF _ _ _ _ _ hW hS (lv_sub hl [2, 1, 0] rfl) (by omega) (by omega)
set_option maxRecDepth 100000 in
set_option maxHeartbeats 4000000 in
theorem c_b_back_ok (l : Launch) (hl0 : l.stackTraces = false) {L : Nat → Nat → Nat} {Ar : Nat → ClassId} {D : va_G} {b0 : Nat} (hLi : f_L L b0) (a1 : Int32)  (z : fST) (r : Int32 ⊕ Nat) (z' : fST) (hF : F_b_back a1 z = some (r, z')) : f_C l y_b_back wt 8 2 L Ar D b0 [.ref (L 0 0), .int a1] z (f_oi r) z' := by
  refine f_ofW (cc := c_b_back) (maxL := 4) (ret := (some FieldType.int)) (by decide) w_b_back (Nat.le_of_ble_eq_true rfl) ?_
  intro p e s m args below meth c R hRf hRl hRc hRs hx hb hr hlk hml hno hts hown hK hZ hsz
  have B50 : ∀ (k25 : Int32 × Int32 × Int32 × fST → Option ((Int32 ⊕ Nat) × fST)) (K25 : ∀ (x1 : Int32) (x2 : Int32) (x3 : Int32) (z : fST), k25 (x1, x2, x3, z) = some (r, z') →  f_B p l e R s m args below meth c L Ar D b0 4 2 (f_E below args s L Ar D b0 2 (f_oi r) z') 0 25 [(0, .ref (L 0 0)), (1, .int x1), (2, .int x2), (3, .int x3)] [] z) (x1 : Int32) (x2 : Int32) (x3 : Int32) (z : fST), b_b_back_50 k25 x1 x2 x3 z = some (r, z') →  f_B p l e R s m args below meth c L Ar D b0 4 2 (f_E below args s L Ar D b0 2 (f_oi r) z') 0 50 [(0, .ref (L 0 0)), (1, .int x1), (2, .int x2), (3, .int x3)] [] z := by
    intro k25 K25 x1 x2 x3 z hF  H locs ls cells slots hW hS hl hc hs
    unfold b_b_back_50 at hF
    refine lv_iinc (k := 3) (x := x3) (v := x3 + 1) (lv' := [(3, .int (x3 + 1)), (0, .ref (L 0 0)), (1, .int x1), (2, .int x2)]) hx hb d_b_back_50 hl rfl rfl (by decide) rfl (fun ls hl => ?_)
    refine lv_goto (tgt := 25) hx hb d_b_back_53 (by decide) ?_
    exact K25 x1 x2 (x3 + 1) z hF _ _ _ _ _ hW hS (lv_sub hl [1, 2, 3, 0] rfl) (by omega) (by omega)
  have B25 : ∀  (n : Nat) (x1 : Int32) (x2 : Int32) (x3 : Int32) (z : fST), f_it (b_b_back_25 ) n (x1, x2, x3, z) = some (r, z') →  f_B p l e R s m args below meth c L Ar D b0 4 2 (f_E below args s L Ar D b0 2 (f_oi r) z') 0 25 [(0, .ref (L 0 0)), (1, .int x1), (2, .int x2), (3, .int x3)] [] z := by
    intro  n
    induction n with
    | zero => intro x1 x2 x3 z hF; cases hF
    | succ n ih =>
    intro x1 x2 x3 z hF  H locs ls cells slots hW hS hl hc hs
    replace hF := f_it_s hF
    have K25 : ∀ (x1 : Int32) (x2 : Int32) (x3 : Int32) (z : fST), f_it (b_b_back_25 ) n (x1, x2, x3, z) = some (r, z') →  f_B p l e R s m args below meth c L Ar D b0 4 2 (f_E below args s L Ar D b0 2 (f_oi r) z') 0 25 [(0, .ref (L 0 0)), (1, .int x1), (2, .int x2), (3, .int x3)] [] z := fun x1 x2 x3 z hF => ih x1 x2 x3 z hF
    generalize f_it (b_b_back_25 ) n = k25 at hF K25
    unfold b_b_back_25 at hF
    dsimp only at hF
    refine lv_iload_n hx hb d_b_back_25 rfl (lv_at hl 3 rfl) ?_
    refine lv_iload_n hx hb d_b_back_26 rfl (lv_at hl 1 rfl) ?_
    refine lv_icmp_ge (tgt := 56) hx hb d_b_back_27 (by decide) (fun h4 => ?_) (fun h4 => ?_)
    · replace hF := (if_pos h4).symm.trans hF
      refine lv_iload_n hx hb d_b_back_56 rfl (lv_at hl 2 rfl) ?_
      refine lv_aload_n hx hb d_b_back_57 rfl (lv_at hl 0 rfl) ?_
      refine hw_get (k := 0) (i := 0) (n := 1) (j := 1) (v := .ref (L 11 0)) hx hb hts hown hK hW fl_b_19 rfl (by omega) rfl d_b_back_58 ?_
      refine hw_get (k := 11) (i := 0) (n := 1) (j := 1) (v := .int (f_gI z 11 0 1)) hx hb hts hown hK hW fl_b_127 rfl (by omega) rfl d_b_back_61 ?_
      refine lv_isub hx hb d_b_back_64 ?_
      exact hw_iretX hx hb hr hlk (vp_nar_int _) hW hS (by omega) (by omega) d_b_back_65 hF
    · replace hF := (if_neg h4).symm.trans hF
      refine lv_aload_n hx hb d_b_back_30 rfl (lv_at hl 0 rfl) ?_
      refine hw_get (k := 0) (i := 0) (n := 1) (j := 1) (v := .ref (L 11 0)) hx hb hts hown hK hW fl_b_19 rfl (by omega) rfl d_b_back_31 ?_
      obtain ⟨v5, z5, hc5, hF⟩ := f_bd_some hF
      refine hw_VR (k := 11) (i := 0) (nk := 1) (As := []) (rest := []) hx hb hml hown hts (c_be_moveDown_ok l hl0 hLi   _ _ _ hc5) st_b_130 (by decide) rfl (by omega) rfl rfl hK hZ hsz hS hW rfl hl.1 (Nat.le_of_ble_eq_true rfl) d_b_back_34 (by omega) (by omega) (by omega) (by omega) (fun H locs hW hS => ?_)
      refine lv_if_eq (tgt := 50) hx hb d_b_back_37 (by decide) (fun h6 => ?_) (fun h6 => ?_)
      · replace hF := (if_pos h6).symm.trans hF
        exact B50 k25 K25 x1 x2 x3 z5 hF _ _ _ _ _ hW hS (lv_sub hl [0, 1, 2, 3] rfl) (by omega) (by omega)
      · replace hF := (if_neg h6).symm.trans hF
        refine lv_aload_n hx hb d_b_back_40 rfl (lv_at hl 0 rfl) ?_
        refine lv_dup hx hb d_b_back_41 rfl ?_
        refine hw_get (k := 0) (i := 0) (n := 1) (j := 11) (v := .int (f_gI z5 0 0 11)) hx hb hts hown hK hW fl_b_133 rfl (by omega) rfl d_b_back_42 ?_
        refine lv_iconst (v := 1) hx hb d_b_back_45 (by decide) ?_
        refine lv_iadd hx hb d_b_back_46 ?_
        refine hw_put (k := 0) (i := 0) (n := 1) (j := 11) (v := (f_gI z5 0 0 11) + 1) hx hb hts hown hK hLi hW hS fp_b_133 (vp_nar_int _) rfl rfl (by omega) d_b_back_47 (fun H locs hW hS => ?_)
        exact B50 k25 K25 x1 x2 x3 (f_pI z5 0 0 11 ((f_gI z5 0 0 11) + 1)) hF _ _ _ _ _ hW hS (lv_sub hl [0, 1, 2, 3] rfl) (by omega) (by omega)
  intro H locs ls cells slots hW hS hl hc hs
  have hl : lv_has ls 4 [(0, .ref (L 0 0)), (1, .int a1)] := hl
  unfold F_b_back at hF
  refine lv_aload_n hx hb d_b_back_0 rfl (lv_at hl 0 rfl) ?_
  rcases f_bx_some hF with ⟨v1, z1, hc1, hF⟩ | ⟨v1, z1, hc1, hF⟩
  · skip
    refine hw_VR (k := 0) (i := 0) (nk := 1) (As := []) (rest := []) hx hb hml hown hts (c_b_requireOn_ok l hl0 hLi   _ _ _ hc1) st_b_55 (by decide) rfl (by omega) rfl rfl hK hZ hsz hS hW rfl hl.1 (Nat.le_of_ble_eq_true rfl) d_b_back_1 (by omega) (by omega) (by omega) (by omega) (fun H locs hW hS => ?_)
    refine lv_iload_n hx hb d_b_back_4 rfl (lv_at hl 1 rfl) ?_
    refine lv_iconst (v := 0) hx hb d_b_back_5 (by decide) ?_
    refine lv_sipush (v := 300) hx hb d_b_back_6 (by decide) ?_
    obtain ⟨v2, z2, hc2, hF⟩ := f_bd_some hF
    refine hw_SR (As := [.int a1, .int 0, .int 300]) (rest := []) hx hb hml hown hts (c_b_isWithin_ok l hl0 hLi a1 0 300  _ _ _ hc2) st_b_66 hK hZ hsz hS hW rfl hl.1 (Nat.le_of_ble_eq_true rfl) d_b_back_9 (by omega) (by omega) (by omega) (by omega) (fun H locs hW hS => ?_)
    rcases f_bx_some hF with ⟨v3, z3, hc3, hF⟩ | ⟨v3, z3, hc3, hF⟩
    · skip
      refine hw_SR (As := [.int v2]) (rest := []) hx hb hml hown hts (c_b_require_ok l hl0 hLi v2  _ _ _ hc3) st_b_62 hK hZ hsz hS hW rfl hl.1 (Nat.le_of_ble_eq_true rfl) d_b_back_12 (by omega) (by omega) (by omega) (by omega) (fun H locs hW hS => ?_)
      refine lv_aload_n hx hb d_b_back_15 rfl (lv_at hl 0 rfl) ?_
      refine hw_get (k := 0) (i := 0) (n := 1) (j := 1) (v := .ref (L 11 0)) hx hb hts hown hK hW fl_b_19 rfl (by omega) rfl d_b_back_16 ?_
      refine hw_get (k := 11) (i := 0) (n := 1) (j := 1) (v := .int (f_gI z3 11 0 1)) hx hb hts hown hK hW fl_b_127 rfl (by omega) rfl d_b_back_19 ?_
      refine lv_istore_n (lv' := [(2, .int (f_gI z3 11 0 1)), (0, .ref (L 0 0)), (1, .int a1)]) hx hb d_b_back_22 rfl hl (by decide) rfl (fun ls hl => ?_)
      refine lv_iconst (v := 0) hx hb d_b_back_23 (by decide) ?_
      refine lv_istore_n (lv' := [(3, .int 0), (2, .int (f_gI z3 11 0 1)), (0, .ref (L 0 0)), (1, .int a1)]) hx hb d_b_back_24 rfl hl (by decide) rfl (fun ls hl => ?_)
      exact B25 2000 a1 (f_gI z3 11 0 1) 0 z3 hF _ _ _ _ _ hW hS (lv_sub hl [2, 3, 1, 0] rfl) (by omega) (by omega)
    · cases hF
      exact hw_SX (As := [.int v2]) (rest := []) hx hb hml hown hts (c_b_require_ok l hl0 hLi v2  _ _ _ hc3) st_b_62 hK hZ hsz hS hW rfl hl.1 (Nat.le_of_ble_eq_true rfl) d_b_back_12 (by omega) (by omega) (by omega) (by omega) (fun q ce H locs hW hS hq hv hcl => hw_out (fun x hx => (hno x hx).elim) hlk hW hS hq hv hcl (by omega) (by omega))
  · cases hF
    exact hw_VX (k := 0) (i := 0) (nk := 1) (As := []) (rest := []) hx hb hml hown hts (c_b_requireOn_ok l hl0 hLi   _ _ _ hc1) st_b_55 (by decide) rfl (by omega) rfl rfl hK hZ hsz hS hW rfl hl.1 (Nat.le_of_ble_eq_true rfl) d_b_back_1 (by omega) (by omega) (by omega) (by omega) (fun q ce H locs hW hS hq hv hcl => hw_out (fun x hx => (hno x hx).elim) hlk hW hS hq hv hcl (by omega) (by omega))
set_option maxRecDepth 100000 in
set_option maxHeartbeats 4000000 in
theorem c_vo_keep_ok (l : Launch) (hl0 : l.stackTraces = false) {L : Nat → Nat → Nat} {Ar : Nat → ClassId} {D : va_G} {b0 : Nat} (hLi : f_L L b0) (a1 : Int32) (a2 : Int32) (a3 : Int32)  (z : fST) (r : Unit) (z' : fST) (hF : F_vo_keep a1 a2 a3 z = some (r, z')) : f_C l y_vo_keep wt 1 0 L Ar D b0 [.ref (L 19 0), .int a1, .int a2, .int a3] z (.inl none) z' := by
  refine f_ofW (cc := c_vo_keep) (maxL := 4) (ret := (Option.none : Option Jvm.ClassFile.FieldType)) (by decide) w_vo_keep (Nat.le_of_ble_eq_true rfl) ?_
  intro p e s m args below meth c R hRf hRl hRc hRs hx hb hr hlk hml hno hts hown hK hZ hsz
  intro H locs ls cells slots hW hS hl hc hs
  have hl : lv_has ls 4 [(0, .ref (L 19 0)), (1, .int a1), (2, .int a2), (3, .int a3)] := hl
  unfold F_vo_keep at hF
  refine lv_aload_n hx hb d_vo_keep_0 rfl (lv_at hl 0 rfl) ?_
  refine hw_get (k := 19) (i := 0) (n := 1) (j := 0) (v := .ref (L 20 0)) hx hb hts hown hK hW fl_vo_9 rfl (by omega) rfl d_vo_keep_1 ?_
  refine lv_aload_n hx hb d_vo_keep_4 rfl (lv_at hl 0 rfl) ?_
  refine hw_get (k := 19) (i := 0) (n := 1) (j := 3) (v := .int (f_gI z 19 0 3)) hx hb hts hown hK hW fl_vo_22 rfl (by omega) rfl d_vo_keep_5 ?_
  refine lv_iload_n hx hb d_vo_keep_8 rfl (lv_at hl 1 rfl) ?_
  obtain ⟨g1, hF⟩ := f_gd_some hF
  refine hw_iast (k := 20) (i := 0) (n := 1) hx hb hK hLi hW hS (by decide) rfl (by omega) rfl g1 d_vo_keep_9 (fun H locs hW hS => ?_)
  refine lv_aload_n hx hb d_vo_keep_10 rfl (lv_at hl 0 rfl) ?_
  refine hw_get (k := 19) (i := 0) (n := 1) (j := 1) (v := .ref (L 21 0)) hx hb hts hown hK hW fl_vo_15 rfl (by omega) rfl d_vo_keep_11 ?_
  refine lv_aload_n hx hb d_vo_keep_14 rfl (lv_at hl 0 rfl) ?_
  refine hw_get (k := 19) (i := 0) (n := 1) (j := 3) (v := .int (f_gI (f_pI z 20 0 (f_ix (f_gI z 19 0 3)) a1) 19 0 3)) hx hb hts hown hK hW fl_vo_22 rfl (by omega) rfl d_vo_keep_15 ?_
  refine lv_iload_n hx hb d_vo_keep_18 rfl (lv_at hl 2 rfl) ?_
  obtain ⟨g2, hF⟩ := f_gd_some hF
  refine hw_iast (k := 21) (i := 0) (n := 1) hx hb hK hLi hW hS (by decide) rfl (by omega) rfl g2 d_vo_keep_19 (fun H locs hW hS => ?_)
  refine lv_aload_n hx hb d_vo_keep_20 rfl (lv_at hl 0 rfl) ?_
  refine hw_get (k := 19) (i := 0) (n := 1) (j := 2) (v := .ref (L 22 0)) hx hb hts hown hK hW fl_vo_18 rfl (by omega) rfl d_vo_keep_21 ?_
  refine lv_aload_n hx hb d_vo_keep_24 rfl (lv_at hl 0 rfl) ?_
  refine hw_get (k := 19) (i := 0) (n := 1) (j := 3) (v := .int (f_gI (f_pI (f_pI z 20 0 (f_ix (f_gI z 19 0 3)) a1) 21 0 (f_ix (f_gI (f_pI z 20 0 (f_ix (f_gI z 19 0 3)) a1) 19 0 3)) a2) 19 0 3)) hx hb hts hown hK hW fl_vo_22 rfl (by omega) rfl d_vo_keep_25 ?_
  refine lv_iload_n hx hb d_vo_keep_28 rfl (lv_at hl 3 rfl) ?_
  obtain ⟨g3, hF⟩ := f_gd_some hF
  obtain ⟨g4, hF⟩ := f_gd_some hF
  refine hw_zast (k := 22) (i := 0) (n := 1) hx hb hK hLi hW hS (by decide) rfl (by omega) rfl g3 (f_bz_or g4) d_vo_keep_29 (fun H locs hW hS => ?_)
  refine lv_aload_n hx hb d_vo_keep_30 rfl (lv_at hl 0 rfl) ?_
  refine lv_dup hx hb d_vo_keep_31 rfl ?_
  refine hw_get (k := 19) (i := 0) (n := 1) (j := 3) (v := .int (f_gI (f_pI (f_pI (f_pI z 20 0 (f_ix (f_gI z 19 0 3)) a1) 21 0 (f_ix (f_gI (f_pI z 20 0 (f_ix (f_gI z 19 0 3)) a1) 19 0 3)) a2) 22 0 (f_ix (f_gI (f_pI (f_pI z 20 0 (f_ix (f_gI z 19 0 3)) a1) 21 0 (f_ix (f_gI (f_pI z 20 0 (f_ix (f_gI z 19 0 3)) a1) 19 0 3)) a2) 19 0 3)) a3) 19 0 3)) hx hb hts hown hK hW fl_vo_22 rfl (by omega) rfl d_vo_keep_32 ?_
  refine lv_iconst (v := 1) hx hb d_vo_keep_35 (by decide) ?_
  refine lv_iadd hx hb d_vo_keep_36 ?_
  refine hw_put (k := 19) (i := 0) (n := 1) (j := 3) (v := (f_gI (f_pI (f_pI (f_pI z 20 0 (f_ix (f_gI z 19 0 3)) a1) 21 0 (f_ix (f_gI (f_pI z 20 0 (f_ix (f_gI z 19 0 3)) a1) 19 0 3)) a2) 22 0 (f_ix (f_gI (f_pI (f_pI z 20 0 (f_ix (f_gI z 19 0 3)) a1) 21 0 (f_ix (f_gI (f_pI z 20 0 (f_ix (f_gI z 19 0 3)) a1) 19 0 3)) a2) 19 0 3)) a3) 19 0 3) + 1) hx hb hts hown hK hLi hW hS fp_vo_22 (vp_nar_int _) rfl rfl (by omega) d_vo_keep_37 (fun H locs hW hS => ?_)
  exact hw_vret hx hb hr hlk hW hS (by omega) (by omega) d_vo_keep_40 hF
set_option maxRecDepth 100000 in
set_option maxHeartbeats 4000000 in
theorem c_vo_issue_ok (l : Launch) (hl0 : l.stackTraces = false) {L : Nat → Nat → Nat} {Ar : Nat → ClassId} {D : va_G} {b0 : Nat} (hLi : f_L L b0) (a1 : Int32)  (z : fST) (r : Int32) (z' : fST) (hF : F_vo_issue a1 z = some (r, z')) : f_C l y_vo_issue wt 2 0 L Ar D b0 [.ref (L 19 0), .int a1] z (.inl (some (.int r))) z' := by
  refine f_ofW (cc := c_vo_issue) (maxL := 2) (ret := (some FieldType.int)) (by decide) w_vo_issue (Nat.le_of_ble_eq_true rfl) ?_
  intro p e s m args below meth c R hRf hRl hRc hRs hx hb hr hlk hml hno hts hown hK hZ hsz
  intro H locs ls cells slots hW hS hl hc hs
  have hl : lv_has ls 2 [(0, .ref (L 19 0)), (1, .int a1)] := hl
  unfold F_vo_issue at hF
  refine lv_aload_n hx hb d_vo_issue_0 rfl (lv_at hl 0 rfl) ?_
  refine lv_dup hx hb d_vo_issue_1 rfl ?_
  refine hw_get (k := 19) (i := 0) (n := 1) (j := 4) (v := .int (f_gI z 19 0 4)) hx hb hts hown hK hW fl_vo_26 rfl (by omega) rfl d_vo_issue_2 ?_
  refine lv_iconst (v := 1) hx hb d_vo_issue_5 (by decide) ?_
  refine lv_iadd hx hb d_vo_issue_6 ?_
  refine hw_put (k := 19) (i := 0) (n := 1) (j := 4) (v := (f_gI z 19 0 4) + 1) hx hb hts hown hK hLi hW hS fp_vo_26 (vp_nar_int _) rfl rfl (by omega) d_vo_issue_7 (fun H locs hW hS => ?_)
  refine lv_aload_n hx hb d_vo_issue_10 rfl (lv_at hl 0 rfl) ?_
  refine lv_aload_n hx hb d_vo_issue_11 rfl (lv_at hl 0 rfl) ?_
  refine hw_get (k := 19) (i := 0) (n := 1) (j := 4) (v := .int (f_gI (f_pI z 19 0 4 ((f_gI z 19 0 4) + 1)) 19 0 4)) hx hb hts hown hK hW fl_vo_26 rfl (by omega) rfl d_vo_issue_12 ?_
  refine lv_iload_n hx hb d_vo_issue_15 rfl (lv_at hl 1 rfl) ?_
  refine lv_iconst (v := 0) hx hb d_vo_issue_16 (by decide) ?_
  obtain ⟨v1, z1, hc1, hF⟩ := f_bd_some hF
  refine hw_VR (k := 19) (i := 0) (nk := 1) (As := [.int (f_gI (f_pI z 19 0 4 ((f_gI z 19 0 4) + 1)) 19 0 4), .int a1, .int 0]) (rest := []) hx hb hml hown hts (c_vo_keep_ok l hl0 hLi (f_gI (f_pI z 19 0 4 ((f_gI z 19 0 4) + 1)) 19 0 4) a1 0  _ _ _ hc1) st_vo_29 (by decide) rfl (by omega) rfl rfl hK hZ hsz hS hW rfl hl.1 (Nat.le_of_ble_eq_true rfl) d_vo_issue_17 (by omega) (by omega) (by omega) (by omega) (fun H locs hW hS => ?_)
  refine lv_aload_n hx hb d_vo_issue_20 rfl (lv_at hl 0 rfl) ?_
  refine lv_dup hx hb d_vo_issue_21 rfl ?_
  refine hw_get (k := 19) (i := 0) (n := 1) (j := 5) (v := .int (f_gI z1 19 0 5)) hx hb hts hown hK hW fl_vo_33 rfl (by omega) rfl d_vo_issue_22 ?_
  refine lv_iload_n hx hb d_vo_issue_25 rfl (lv_at hl 1 rfl) ?_
  refine lv_iadd hx hb d_vo_issue_26 ?_
  refine hw_put (k := 19) (i := 0) (n := 1) (j := 5) (v := (f_gI z1 19 0 5) + a1) hx hb hts hown hK hLi hW hS fp_vo_33 (vp_nar_int _) rfl rfl (by omega) d_vo_issue_27 (fun H locs hW hS => ?_)
  refine lv_aload_n hx hb d_vo_issue_30 rfl (lv_at hl 0 rfl) ?_
  refine hw_get (k := 19) (i := 0) (n := 1) (j := 4) (v := .int (f_gI (f_pI z1 19 0 5 ((f_gI z1 19 0 5) + a1)) 19 0 4)) hx hb hts hown hK hW fl_vo_26 rfl (by omega) rfl d_vo_issue_31 ?_
  exact hw_iret hx hb hr hlk (vp_nar_int _) hW hS (by omega) (by omega) d_vo_issue_34 hF
set_option maxRecDepth 100000 in
set_option maxHeartbeats 4000000 in
theorem c_b_voucher_ok (l : Launch) (hl0 : l.stackTraces = false) {L : Nat → Nat → Nat} {Ar : Nat → ClassId} {D : va_G} {b0 : Nat} (hLi : f_L L b0)   (z : fST) (r : Int32 ⊕ Nat) (z' : fST) (hF : F_b_voucher  z = some (r, z')) : f_C l y_b_voucher wt 8 1 L Ar D b0 [.ref (L 0 0)] z (f_oi r) z' := by
  refine f_ofW (cc := c_b_voucher) (maxL := 2) (ret := (some FieldType.int)) (by decide) w_b_voucher (Nat.le_of_ble_eq_true rfl) ?_
  intro p e s m args below meth c R hRf hRl hRc hRs hx hb hr hlk hml hno hts hown hK hZ hsz
  intro H locs ls cells slots hW hS hl hc hs
  have hl : lv_has ls 2 [(0, .ref (L 0 0))] := hl
  unfold F_b_voucher at hF
  refine lv_aload_n hx hb d_b_voucher_0 rfl (lv_at hl 0 rfl) ?_
  rcases f_bx_some hF with ⟨v1, z1, hc1, hF⟩ | ⟨v1, z1, hc1, hF⟩
  · skip
    refine hw_VR (k := 0) (i := 0) (nk := 1) (As := []) (rest := []) hx hb hml hown hts (c_b_requireOn_ok l hl0 hLi   _ _ _ hc1) st_b_55 (by decide) rfl (by omega) rfl rfl hK hZ hsz hS hW rfl hl.1 (Nat.le_of_ble_eq_true rfl) d_b_voucher_1 (by omega) (by omega) (by omega) (by omega) (fun H locs hW hS => ?_)
    refine lv_aload_n hx hb d_b_voucher_4 rfl (lv_at hl 0 rfl) ?_
    refine hw_get (k := 0) (i := 0) (n := 1) (j := 7) (v := .int (f_gI z1 0 0 7)) hx hb hts hown hK hW fl_b_136 rfl (by omega) rfl d_b_voucher_5 ?_
    refine lv_if_eq (tgt := 31) hx hb d_b_voucher_8 (by decide) (fun h2 => ?_) (fun h2 => ?_)
    · replace hF := (if_pos h2).symm.trans hF
      refine lv_iconst (v := 0) hx hb d_b_voucher_31 (by decide) ?_
      exact hw_iretX hx hb hr hlk (vp_nar_int _) hW hS (by omega) (by omega) d_b_voucher_32 hF
    · replace hF := (if_neg h2).symm.trans hF
      refine lv_aload_n hx hb d_b_voucher_11 rfl (lv_at hl 0 rfl) ?_
      refine hw_get (k := 0) (i := 0) (n := 1) (j := 3) (v := .ref (L 19 0)) hx hb hts hown hK hW fl_b_33 rfl (by omega) rfl d_b_voucher_12 ?_
      obtain ⟨v3, z3, hc3, hF⟩ := f_bd_some hF
      refine hw_VR (k := 19) (i := 0) (nk := 1) (As := []) (rest := []) hx hb hml hown hts (c_vo_isFull_ok l hl0 hLi   _ _ _ hc3) st_b_139 (by decide) rfl (by omega) rfl rfl hK hZ hsz hS hW rfl hl.1 (Nat.le_of_ble_eq_true rfl) d_b_voucher_15 (by omega) (by omega) (by omega) (by omega) (fun H locs hW hS => ?_)
      refine lv_if_ne (tgt := 31) hx hb d_b_voucher_18 (by decide) (fun h4 => ?_) (fun h4 => ?_)
      · replace hF := (if_neg h4).symm.trans hF
        refine lv_iconst (v := 0) hx hb d_b_voucher_31 (by decide) ?_
        exact hw_iretX hx hb hr hlk (vp_nar_int _) hW hS (by omega) (by omega) d_b_voucher_32 hF
      · replace hF := (if_pos h4).symm.trans hF
        refine lv_aload_n hx hb d_b_voucher_21 rfl (lv_at hl 0 rfl) ?_
        refine hw_get (k := 0) (i := 0) (n := 1) (j := 4) (v := .ref (L 23 0)) hx hb hts hown hK hW fl_b_40 rfl (by omega) rfl d_b_voucher_22 ?_
        obtain ⟨v5, z5, hc5, hF⟩ := f_bd_some hF
        refine hw_VR (k := 23) (i := 0) (nk := 1) (As := []) (rest := []) hx hb hml hown hts (c_jo_write_ok l hl0 hLi   _ _ _ hc5) st_b_142 (by decide) rfl (by omega) rfl rfl hK hZ hsz hS hW rfl hl.1 (Nat.le_of_ble_eq_true rfl) d_b_voucher_25 (by omega) (by omega) (by omega) (by omega) (fun H locs hW hS => ?_)
        refine lv_if_ne (tgt := 33) hx hb d_b_voucher_28 (by decide) (fun h6 => ?_) (fun h6 => ?_)
        · replace hF := (if_neg h6).symm.trans hF
          refine lv_aload_n hx hb d_b_voucher_33 rfl (lv_at hl 0 rfl) ?_
          refine hw_get (k := 0) (i := 0) (n := 1) (j := 3) (v := .ref (L 19 0)) hx hb hts hown hK hW fl_b_33 rfl (by omega) rfl d_b_voucher_34 ?_
          refine lv_aload_n hx hb d_b_voucher_37 rfl (lv_at hl 0 rfl) ?_
          refine hw_get (k := 0) (i := 0) (n := 1) (j := 7) (v := .int (f_gI z5 0 0 7)) hx hb hts hown hK hW fl_b_136 rfl (by omega) rfl d_b_voucher_38 ?_
          obtain ⟨v7, z7, hc7, hF⟩ := f_bd_some hF
          refine hw_VR (k := 19) (i := 0) (nk := 1) (As := [.int (f_gI z5 0 0 7)]) (rest := []) hx hb hml hown hts (c_vo_issue_ok l hl0 hLi (f_gI z5 0 0 7)  _ _ _ hc7) st_b_145 (by decide) rfl (by omega) rfl rfl hK hZ hsz hS hW rfl hl.1 (Nat.le_of_ble_eq_true rfl) d_b_voucher_41 (by omega) (by omega) (by omega) (by omega) (fun H locs hW hS => ?_)
          refine lv_istore_n (lv' := [(1, .int v7), (0, .ref (L 0 0))]) hx hb d_b_voucher_44 rfl hl (by decide) rfl (fun ls hl => ?_)
          refine lv_aload_n hx hb d_b_voucher_45 rfl (lv_at hl 1 rfl) ?_
          refine lv_iconst (v := 0) hx hb d_b_voucher_46 (by decide) ?_
          refine hw_put (k := 0) (i := 0) (n := 1) (j := 7) (v := 0) hx hb hts hown hK hLi hW hS fp_b_136 (vp_nar_int _) rfl rfl (by omega) d_b_voucher_47 (fun H locs hW hS => ?_)
          refine lv_iload_n hx hb d_b_voucher_50 rfl (lv_at hl 0 rfl) ?_
          exact hw_iretX hx hb hr hlk (vp_nar_int _) hW hS (by omega) (by omega) d_b_voucher_51 hF
        · replace hF := (if_pos h6).symm.trans hF
          refine lv_iconst (v := 0) hx hb d_b_voucher_31 (by decide) ?_
          exact hw_iretX hx hb hr hlk (vp_nar_int _) hW hS (by omega) (by omega) d_b_voucher_32 hF
  · cases hF
    exact hw_VX (k := 0) (i := 0) (nk := 1) (As := []) (rest := []) hx hb hml hown hts (c_b_requireOn_ok l hl0 hLi   _ _ _ hc1) st_b_55 (by decide) rfl (by omega) rfl rfl hK hZ hsz hS hW rfl hl.1 (Nat.le_of_ble_eq_true rfl) d_b_voucher_1 (by omega) (by omega) (by omega) (by omega) (fun q ce H locs hW hS hq hv hcl => hw_out (fun x hx => (hno x hx).elim) hlk hW hS hq hv hcl (by omega) (by omega))
set_option maxRecDepth 100000 in
set_option maxHeartbeats 4000000 in
theorem c_b_give_ok (l : Launch) (hl0 : l.stackTraces = false) {L : Nat → Nat → Nat} {Ar : Nat → ClassId} {D : va_G} {b0 : Nat} (hLi : f_L L b0)   (z : fST) (r : Int32 ⊕ Nat) (z' : fST) (hF : F_b_give  z = some (r, z')) : f_C l y_b_give wt 8 1 L Ar D b0 [.ref (L 0 0)] z (f_oi r) z' := by
  refine f_ofW (cc := c_b_give) (maxL := 2) (ret := (some FieldType.int)) (by decide) w_b_give (Nat.le_of_ble_eq_true rfl) ?_
  intro p e s m args below meth c R hRf hRl hRc hRs hx hb hr hlk hml hno hts hown hK hZ hsz
  intro H locs ls cells slots hW hS hl hc hs
  have hl : lv_has ls 2 [(0, .ref (L 0 0))] := hl
  unfold F_b_give at hF
  refine lv_aload_n hx hb d_b_give_0 rfl (lv_at hl 0 rfl) ?_
  rcases f_bx_some hF with ⟨v1, z1, hc1, hF⟩ | ⟨v1, z1, hc1, hF⟩
  · skip
    refine hw_VR (k := 0) (i := 0) (nk := 1) (As := []) (rest := []) hx hb hml hown hts (c_b_requireOn_ok l hl0 hLi   _ _ _ hc1) st_b_55 (by decide) rfl (by omega) rfl rfl hK hZ hsz hS hW rfl hl.1 (Nat.le_of_ble_eq_true rfl) d_b_give_1 (by omega) (by omega) (by omega) (by omega) (fun H locs hW hS => ?_)
    refine lv_aload_n hx hb d_b_give_4 rfl (lv_at hl 0 rfl) ?_
    refine hw_get (k := 0) (i := 0) (n := 1) (j := 7) (v := .int (f_gI z1 0 0 7)) hx hb hts hown hK hW fl_b_136 rfl (by omega) rfl d_b_give_5 ?_
    refine lv_if_eq (tgt := 21) hx hb d_b_give_8 (by decide) (fun h2 => ?_) (fun h2 => ?_)
    · replace hF := (if_pos h2).symm.trans hF
      refine lv_iconst (v := 0) hx hb d_b_give_21 (by decide) ?_
      exact hw_iretX hx hb hr hlk (vp_nar_int _) hW hS (by omega) (by omega) d_b_give_22 hF
    · replace hF := (if_neg h2).symm.trans hF
      refine lv_aload_n hx hb d_b_give_11 rfl (lv_at hl 0 rfl) ?_
      refine hw_get (k := 0) (i := 0) (n := 1) (j := 4) (v := .ref (L 23 0)) hx hb hts hown hK hW fl_b_40 rfl (by omega) rfl d_b_give_12 ?_
      obtain ⟨v3, z3, hc3, hF⟩ := f_bd_some hF
      refine hw_VR (k := 23) (i := 0) (nk := 1) (As := []) (rest := []) hx hb hml hown hts (c_jo_write_ok l hl0 hLi   _ _ _ hc3) st_b_142 (by decide) rfl (by omega) rfl rfl hK hZ hsz hS hW rfl hl.1 (Nat.le_of_ble_eq_true rfl) d_b_give_15 (by omega) (by omega) (by omega) (by omega) (fun H locs hW hS => ?_)
      refine lv_if_ne (tgt := 23) hx hb d_b_give_18 (by decide) (fun h4 => ?_) (fun h4 => ?_)
      · replace hF := (if_neg h4).symm.trans hF
        refine lv_aload_n hx hb d_b_give_23 rfl (lv_at hl 0 rfl) ?_
        refine hw_get (k := 0) (i := 0) (n := 1) (j := 7) (v := .int (f_gI z3 0 0 7)) hx hb hts hown hK hW fl_b_136 rfl (by omega) rfl d_b_give_24 ?_
        refine lv_istore_n (lv' := [(1, .int (f_gI z3 0 0 7)), (0, .ref (L 0 0))]) hx hb d_b_give_27 rfl hl (by decide) rfl (fun ls hl => ?_)
        refine lv_aload_n hx hb d_b_give_28 rfl (lv_at hl 1 rfl) ?_
        refine lv_dup hx hb d_b_give_29 rfl ?_
        refine hw_get (k := 0) (i := 0) (n := 1) (j := 10) (v := .int (f_gI z3 0 0 10)) hx hb hts hown hK hW fl_b_148 rfl (by omega) rfl d_b_give_30 ?_
        refine lv_iload_n hx hb d_b_give_33 rfl (lv_at hl 0 rfl) ?_
        refine lv_iadd hx hb d_b_give_34 ?_
        refine hw_put (k := 0) (i := 0) (n := 1) (j := 10) (v := (f_gI z3 0 0 10) + (f_gI z3 0 0 7)) hx hb hts hown hK hLi hW hS fp_b_148 (vp_nar_int _) rfl rfl (by omega) d_b_give_35 (fun H locs hW hS => ?_)
        refine lv_aload_n hx hb d_b_give_38 rfl (lv_at hl 1 rfl) ?_
        refine lv_iconst (v := 0) hx hb d_b_give_39 (by decide) ?_
        refine hw_put (k := 0) (i := 0) (n := 1) (j := 7) (v := 0) hx hb hts hown hK hLi hW hS fp_b_136 (vp_nar_int _) rfl rfl (by omega) d_b_give_40 (fun H locs hW hS => ?_)
        refine lv_iload_n hx hb d_b_give_43 rfl (lv_at hl 0 rfl) ?_
        exact hw_iretX hx hb hr hlk (vp_nar_int _) hW hS (by omega) (by omega) d_b_give_44 hF
      · replace hF := (if_pos h4).symm.trans hF
        refine lv_iconst (v := 0) hx hb d_b_give_21 (by decide) ?_
        exact hw_iretX hx hb hr hlk (vp_nar_int _) hW hS (by omega) (by omega) d_b_give_22 hF
  · cases hF
    exact hw_VX (k := 0) (i := 0) (nk := 1) (As := []) (rest := []) hx hb hml hown hts (c_b_requireOn_ok l hl0 hLi   _ _ _ hc1) st_b_55 (by decide) rfl (by omega) rfl rfl hK hZ hsz hS hW rfl hl.1 (Nat.le_of_ble_eq_true rfl) d_b_give_1 (by omega) (by omega) (by omega) (by omega) (fun q ce H locs hW hS hq hv hcl => hw_out (fun x hx => (hno x hx).elim) hlk hW hS hq hv hcl (by omega) (by omega))
set_option maxRecDepth 100000 in
set_option maxHeartbeats 4000000 in
theorem c_vo_placeOf_ok (l : Launch) (hl0 : l.stackTraces = false) {L : Nat → Nat → Nat} {Ar : Nat → ClassId} {D : va_G} {b0 : Nat} (hLi : f_L L b0) (a1 : Int32)  (z : fST) (r : Int32) (z' : fST) (hF : F_vo_placeOf a1 z = some (r, z')) : f_C l y_vo_placeOf wt 1 0 L Ar D b0 [.ref (L 19 0), .int a1] z (.inl (some (.int r))) z' := by
  refine f_ofW (cc := c_vo_placeOf) (maxL := 3) (ret := (some FieldType.int)) (by decide) w_vo_placeOf (Nat.le_of_ble_eq_true rfl) ?_
  intro p e s m args below meth c R hRf hRl hRc hRs hx hb hr hlk hml hno hts hown hK hZ hsz
  have B2 : ∀  (n : Nat) (x1 : Int32) (x2 : Int32) (z : fST), f_it (b_vo_placeOf_2 ) n (x1, x2, z) = some (r, z') →  f_B p l e R s m args below meth c L Ar D b0 3 0 (f_E below args s L Ar D b0 0 (.inl (some (.int r))) z') 0 2 [(0, .ref (L 19 0)), (1, .int x1), (2, .int x2)] [] z := by
    intro  n
    induction n with
    | zero => intro x1 x2 z hF; cases hF
    | succ n ih =>
    intro x1 x2 z hF  H locs ls cells slots hW hS hl hc hs
    replace hF := f_it_s hF
    have K2 : ∀ (x1 : Int32) (x2 : Int32) (z : fST), f_it (b_vo_placeOf_2 ) n (x1, x2, z) = some (r, z') →  f_B p l e R s m args below meth c L Ar D b0 3 0 (f_E below args s L Ar D b0 0 (.inl (some (.int r))) z') 0 2 [(0, .ref (L 19 0)), (1, .int x1), (2, .int x2)] [] z := fun x1 x2 z hF => ih x1 x2 z hF
    generalize f_it (b_vo_placeOf_2 ) n = k2 at hF K2
    unfold b_vo_placeOf_2 at hF
    dsimp only at hF
    refine lv_iload_n hx hb d_vo_placeOf_2 rfl (lv_at hl 2 rfl) ?_
    refine lv_aload_n hx hb d_vo_placeOf_3 rfl (lv_at hl 0 rfl) ?_
    refine hw_get (k := 19) (i := 0) (n := 1) (j := 3) (v := .int (f_gI z 19 0 3)) hx hb hts hown hK hW fl_vo_22 rfl (by omega) rfl d_vo_placeOf_4 ?_
    refine lv_icmp_ge (tgt := 28) hx hb d_vo_placeOf_7 (by decide) (fun h1 => ?_) (fun h1 => ?_)
    · replace hF := (if_pos h1).symm.trans hF
      refine lv_iconst (v := (-1)) hx hb d_vo_placeOf_28 (by decide) ?_
      exact hw_iret hx hb hr hlk (vp_nar_int _) hW hS (by omega) (by omega) d_vo_placeOf_29 hF
    · replace hF := (if_neg h1).symm.trans hF
      refine lv_aload_n hx hb d_vo_placeOf_10 rfl (lv_at hl 0 rfl) ?_
      refine hw_get (k := 19) (i := 0) (n := 1) (j := 0) (v := .ref (L 20 0)) hx hb hts hown hK hW fl_vo_9 rfl (by omega) rfl d_vo_placeOf_11 ?_
      refine lv_iload_n hx hb d_vo_placeOf_14 rfl (lv_at hl 2 rfl) ?_
      obtain ⟨g2, hF⟩ := f_gd_some hF
      refine hw_iald (k := 20) (i := 0) (n := 1) hx hb hK hW (by decide) rfl (by omega) rfl g2 d_vo_placeOf_15 ?_
      refine lv_iload_n hx hb d_vo_placeOf_16 rfl (lv_at hl 1 rfl) ?_
      refine lv_icmp_ne (tgt := 22) hx hb d_vo_placeOf_17 (by decide) (fun h3 => ?_) (fun h3 => ?_)
      · replace hF := (if_neg h3).symm.trans hF
        refine lv_iinc (k := 2) (x := x2) (v := x2 + 1) (lv' := [(2, .int (x2 + 1)), (0, .ref (L 19 0)), (1, .int x1)]) hx hb d_vo_placeOf_22 hl rfl rfl (by decide) rfl (fun ls hl => ?_)
        refine lv_goto (tgt := 2) hx hb d_vo_placeOf_25 (by decide) ?_
        exact K2 x1 (x2 + 1) z hF _ _ _ _ _ hW hS (lv_sub hl [1, 2, 0] rfl) (by omega) (by omega)
      · replace hF := (if_pos h3).symm.trans hF
        refine lv_iload_n hx hb d_vo_placeOf_20 rfl (lv_at hl 2 rfl) ?_
        exact hw_iret hx hb hr hlk (vp_nar_int _) hW hS (by omega) (by omega) d_vo_placeOf_21 hF
  intro H locs ls cells slots hW hS hl hc hs
  have hl : lv_has ls 3 [(0, .ref (L 19 0)), (1, .int a1)] := hl
  unfold F_vo_placeOf at hF
  refine lv_iconst (v := 0) hx hb d_vo_placeOf_0 (by decide) ?_
  refine lv_istore_n (lv' := [(2, .int 0), (0, .ref (L 19 0)), (1, .int a1)]) hx hb d_vo_placeOf_1 rfl hl (by decide) rfl (fun ls hl => ?_)
  exact B2 2000 a1 0 z hF _ _ _ _ _ hW hS (lv_sub hl [1, 2, 0] rfl) (by omega) (by omega)
set_option maxRecDepth 100000 in
set_option maxHeartbeats 4000000 in
theorem c_vo_payOut_ok (l : Launch) (hl0 : l.stackTraces = false) {L : Nat → Nat → Nat} {Ar : Nat → ClassId} {D : va_G} {b0 : Nat} (hLi : f_L L b0) (a1 : Int32)  (z : fST) (r : Int32) (z' : fST) (hF : F_vo_payOut a1 z = some (r, z')) : f_C l y_vo_payOut wt 1 0 L Ar D b0 [.ref (L 19 0), .int a1] z (.inl (some (.int r))) z' := by
  refine f_ofW (cc := c_vo_payOut) (maxL := 2) (ret := (some FieldType.int)) (by decide) w_vo_payOut (Nat.le_of_ble_eq_true rfl) ?_
  intro p e s m args below meth c R hRf hRl hRc hRs hx hb hr hlk hml hno hts hown hK hZ hsz
  intro H locs ls cells slots hW hS hl hc hs
  have hl : lv_has ls 2 [(0, .ref (L 19 0)), (1, .int a1)] := hl
  unfold F_vo_payOut at hF
  refine lv_aload_n hx hb d_vo_payOut_0 rfl (lv_at hl 0 rfl) ?_
  refine hw_get (k := 19) (i := 0) (n := 1) (j := 2) (v := .ref (L 22 0)) hx hb hts hown hK hW fl_vo_18 rfl (by omega) rfl d_vo_payOut_1 ?_
  refine lv_iload_n hx hb d_vo_payOut_4 rfl (lv_at hl 1 rfl) ?_
  obtain ⟨g1, hF⟩ := f_gd_some hF
  refine hw_zald (k := 22) (i := 0) (n := 1) hx hb hK hW (by decide) rfl (by omega) rfl g1 d_vo_payOut_5 ?_
  refine lv_if_eq (tgt := 11) hx hb d_vo_payOut_6 (by decide) (fun h2 => ?_) (fun h2 => ?_)
  · replace hF := (if_pos h2).symm.trans hF
    refine lv_aload_n hx hb d_vo_payOut_11 rfl (lv_at hl 0 rfl) ?_
    refine hw_get (k := 19) (i := 0) (n := 1) (j := 2) (v := .ref (L 22 0)) hx hb hts hown hK hW fl_vo_18 rfl (by omega) rfl d_vo_payOut_12 ?_
    refine lv_iload_n hx hb d_vo_payOut_15 rfl (lv_at hl 1 rfl) ?_
    refine lv_iconst (v := 1) hx hb d_vo_payOut_16 (by decide) ?_
    obtain ⟨g3, hF⟩ := f_gd_some hF
    refine hw_zast (k := 22) (i := 0) (n := 1) hx hb hK hLi hW hS (by decide) rfl (by omega) rfl g3 (Or.inr rfl) d_vo_payOut_17 (fun H locs hW hS => ?_)
    refine lv_aload_n hx hb d_vo_payOut_18 rfl (lv_at hl 0 rfl) ?_
    refine hw_get (k := 19) (i := 0) (n := 1) (j := 1) (v := .ref (L 21 0)) hx hb hts hown hK hW fl_vo_15 rfl (by omega) rfl d_vo_payOut_19 ?_
    refine lv_iload_n hx hb d_vo_payOut_22 rfl (lv_at hl 1 rfl) ?_
    obtain ⟨g4, hF⟩ := f_gd_some hF
    refine hw_iald (k := 21) (i := 0) (n := 1) hx hb hK hW (by decide) rfl (by omega) rfl g4 d_vo_payOut_23 ?_
    exact hw_iret hx hb hr hlk (vp_nar_int _) hW hS (by omega) (by omega) d_vo_payOut_24 hF
  · replace hF := (if_neg h2).symm.trans hF
    refine lv_iconst (v := 0) hx hb d_vo_payOut_9 (by decide) ?_
    exact hw_iret hx hb hr hlk (vp_nar_int _) hW hS (by omega) (by omega) d_vo_payOut_10 hF
set_option maxRecDepth 100000 in
set_option maxHeartbeats 4000000 in
theorem c_b_redeem_ok (l : Launch) (hl0 : l.stackTraces = false) {L : Nat → Nat → Nat} {Ar : Nat → ClassId} {D : va_G} {b0 : Nat} (hLi : f_L L b0) (a1 : Int32)  (z : fST) (r : Int32 ⊕ Nat) (z' : fST) (hF : F_b_redeem a1 z = some (r, z')) : f_C l y_b_redeem wt 8 2 L Ar D b0 [.ref (L 0 0), .int a1] z (f_oi r) z' := by
  refine f_ofW (cc := c_b_redeem) (maxL := 3) (ret := (some FieldType.int)) (by decide) w_b_redeem (Nat.le_of_ble_eq_true rfl) ?_
  intro p e s m args below meth c R hRf hRl hRc hRs hx hb hr hlk hml hno hts hown hK hZ hsz
  intro H locs ls cells slots hW hS hl hc hs
  have hl : lv_has ls 3 [(0, .ref (L 0 0)), (1, .int a1)] := hl
  unfold F_b_redeem at hF
  refine lv_aload_n hx hb d_b_redeem_0 rfl (lv_at hl 0 rfl) ?_
  rcases f_bx_some hF with ⟨v1, z1, hc1, hF⟩ | ⟨v1, z1, hc1, hF⟩
  · skip
    refine hw_VR (k := 0) (i := 0) (nk := 1) (As := []) (rest := []) hx hb hml hown hts (c_b_requireOn_ok l hl0 hLi   _ _ _ hc1) st_b_55 (by decide) rfl (by omega) rfl rfl hK hZ hsz hS hW rfl hl.1 (Nat.le_of_ble_eq_true rfl) d_b_redeem_1 (by omega) (by omega) (by omega) (by omega) (fun H locs hW hS => ?_)
    refine lv_aload_n hx hb d_b_redeem_4 rfl (lv_at hl 0 rfl) ?_
    refine hw_get (k := 0) (i := 0) (n := 1) (j := 3) (v := .ref (L 19 0)) hx hb hts hown hK hW fl_b_33 rfl (by omega) rfl d_b_redeem_5 ?_
    refine lv_iload_n hx hb d_b_redeem_8 rfl (lv_at hl 1 rfl) ?_
    obtain ⟨v2, z2, hc2, hF⟩ := f_bd_some hF
    refine hw_VR (k := 19) (i := 0) (nk := 1) (As := [.int a1]) (rest := []) hx hb hml hown hts (c_vo_placeOf_ok l hl0 hLi a1  _ _ _ hc2) st_b_151 (by decide) rfl (by omega) rfl rfl hK hZ hsz hS hW rfl hl.1 (Nat.le_of_ble_eq_true rfl) d_b_redeem_9 (by omega) (by omega) (by omega) (by omega) (fun H locs hW hS => ?_)
    refine lv_istore_n (lv' := [(2, .int v2), (0, .ref (L 0 0)), (1, .int a1)]) hx hb d_b_redeem_12 rfl hl (by decide) rfl (fun ls hl => ?_)
    refine lv_iload_n hx hb d_b_redeem_13 rfl (lv_at hl 0 rfl) ?_
    refine lv_aload_n hx hb d_b_redeem_14 rfl (lv_at hl 1 rfl) ?_
    refine hw_get (k := 0) (i := 0) (n := 1) (j := 3) (v := .ref (L 19 0)) hx hb hts hown hK hW fl_b_33 rfl (by omega) rfl d_b_redeem_15 ?_
    refine hw_get (k := 19) (i := 0) (n := 1) (j := 3) (v := .int (f_gI z2 19 0 3)) hx hb hts hown hK hW fl_b_154 rfl (by omega) rfl d_b_redeem_18 ?_
    obtain ⟨v3, z3, hc3, hF⟩ := f_bd_some hF
    refine hw_SR (As := [.int v2, .int (f_gI z2 19 0 3)]) (rest := []) hx hb hml hown hts (c_b_isIndex_ok l hl0 hLi v2 (f_gI z2 19 0 3)  _ _ _ hc3) st_b_58 hK hZ hsz hS hW rfl hl.1 (Nat.le_of_ble_eq_true rfl) d_b_redeem_21 (by omega) (by omega) (by omega) (by omega) (fun H locs hW hS => ?_)
    rcases f_bx_some hF with ⟨v4, z4, hc4, hF⟩ | ⟨v4, z4, hc4, hF⟩
    · skip
      refine hw_SR (As := [.int v3]) (rest := []) hx hb hml hown hts (c_b_require_ok l hl0 hLi v3  _ _ _ hc4) st_b_62 hK hZ hsz hS hW rfl hl.1 (Nat.le_of_ble_eq_true rfl) d_b_redeem_24 (by omega) (by omega) (by omega) (by omega) (fun H locs hW hS => ?_)
      refine lv_aload_n hx hb d_b_redeem_27 rfl (lv_at hl 1 rfl) ?_
      refine hw_get (k := 0) (i := 0) (n := 1) (j := 3) (v := .ref (L 19 0)) hx hb hts hown hK hW fl_b_33 rfl (by omega) rfl d_b_redeem_28 ?_
      refine lv_iload_n hx hb d_b_redeem_31 rfl (lv_at hl 0 rfl) ?_
      obtain ⟨v5, z5, hc5, hF⟩ := f_bd_some hF
      refine hw_VR (k := 19) (i := 0) (nk := 1) (As := [.int v2]) (rest := []) hx hb hml hown hts (c_vo_payOut_ok l hl0 hLi v2  _ _ _ hc5) st_b_157 (by decide) rfl (by omega) rfl rfl hK hZ hsz hS hW rfl hl.1 (Nat.le_of_ble_eq_true rfl) d_b_redeem_32 (by omega) (by omega) (by omega) (by omega) (fun H locs hW hS => ?_)
      exact hw_iretX hx hb hr hlk (vp_nar_int _) hW hS (by omega) (by omega) d_b_redeem_35 hF
    · cases hF
      exact hw_SX (As := [.int v3]) (rest := []) hx hb hml hown hts (c_b_require_ok l hl0 hLi v3  _ _ _ hc4) st_b_62 hK hZ hsz hS hW rfl hl.1 (Nat.le_of_ble_eq_true rfl) d_b_redeem_24 (by omega) (by omega) (by omega) (by omega) (fun q ce H locs hW hS hq hv hcl => hw_out (fun x hx => (hno x hx).elim) hlk hW hS hq hv hcl (by omega) (by omega))
  · cases hF
    exact hw_VX (k := 0) (i := 0) (nk := 1) (As := []) (rest := []) hx hb hml hown hts (c_b_requireOn_ok l hl0 hLi   _ _ _ hc1) st_b_55 (by decide) rfl (by omega) rfl rfl hK hZ hsz hS hW rfl hl.1 (Nat.le_of_ble_eq_true rfl) d_b_redeem_1 (by omega) (by omega) (by omega) (by omega) (fun q ce H locs hW hS hq hv hcl => hw_out (fun x hx => (hno x hx).elim) hlk hW hS hq hv hcl (by omega) (by omega))
