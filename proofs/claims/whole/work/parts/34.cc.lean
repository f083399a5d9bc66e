/-! contracts: the method does what its pure function says -/
set_option maxRecDepth 100000 in
set_option maxHeartbeats 4000000 in
theorem c_vo_forgetRedeemed_ok (l : Launch) (hl0 : l.stackTraces = false) {L : Nat → Nat → Nat} {Ar : Nat → ClassId} {D : va_G} {b0 : Nat} (hLi : f_L L b0)   (z : fST) (r : Int32) (z' : fST) (hF : F_vo_forgetRedeemed  z = some (r, z')) : f_C l y_vo_forgetRedeemed wt 2 0 L Ar D b0 [.ref (L 19 0)] z (.inl (some (.int r))) z' := by
  refine f_ofW (cc := c_vo_forgetRedeemed) (maxL := 3) (ret := (some FieldType.int)) (by decide) w_vo_forgetRedeemed (Nat.le_of_ble_eq_true rfl) ?_
  intro p e s m args below meth c R hRf hRl hRc hRs hx hb hr hlk hml hno hts hown hK hZ hsz
  have B43 : ∀ (k12 : Int32 × Int32 × fST → Option (Int32 × fST)) (K12 : ∀ (x1 : Int32) (x2 : Int32) (z : fST), k12 (x1, x2, z) = some (r, z') →  f_B p l e R s m args below meth c L Ar D b0 3 0 (f_E below args s L Ar D b0 0 (.inl (some (.int r))) z') 0 12 [(0, .ref (L 19 0)), (1, .int x1), (2, .int x2)] [] z) (x1 : Int32) (x2 : Int32) (z : fST), b_vo_forgetRedeemed_43 k12 x1 x2 z = some (r, z') →  f_B p l e R s m args below meth c L Ar D b0 3 0 (f_E below args s L Ar D b0 0 (.inl (some (.int r))) z') 0 43 [(0, .ref (L 19 0)), (1, .int x1), (2, .int x2)] [] z := by
    intro k12 K12 x1 x2 z hF  H locs ls cells slots hW hS hl hc hs
    unfold b_vo_forgetRedeemed_43 at hF
    refine lv_iinc (k := 2) (x := x2) (v := x2 + 1) (lv' := [(2, .int (x2 + 1)), (0, .ref (L 19 0)), (1, .int x1)]) hx hb d_vo_forgetRedeemed_43 hl rfl rfl (by decide) rfl (fun ls hl => ?_)
    refine lv_goto (tgt := 12) hx hb d_vo_forgetRedeemed_46 (by decide) ?_
    exact K12 x1 (x2 + 1) z hF _ _ _ _ _ hW hS (lv_sub hl [1, 2, 0] rfl) (by omega) (by omega)
  have B12 : ∀  (n : Nat) (x1 : Int32) (x2 : Int32) (z : fST), f_it (b_vo_forgetRedeemed_12 ) n (x1, x2, z) = some (r, z') →  f_B p l e R s m args below meth c L Ar D b0 3 0 (f_E below args s L Ar D b0 0 (.inl (some (.int r))) z') 0 12 [(0, .ref (L 19 0)), (1, .int x1), (2, .int x2)] [] z := by
    intro  n
    induction n with
    | zero => intro x1 x2 z hF; cases hF
    | succ n ih =>
    intro x1 x2 z hF  H locs ls cells slots hW hS hl hc hs
    replace hF := f_it_s hF
    have K12 : ∀ (x1 : Int32) (x2 : Int32) (z : fST), f_it (b_vo_forgetRedeemed_12 ) n (x1, x2, z) = some (r, z') →  f_B p l e R s m args below meth c L Ar D b0 3 0 (f_E below args s L Ar D b0 0 (.inl (some (.int r))) z') 0 12 [(0, .ref (L 19 0)), (1, .int x1), (2, .int x2)] [] z := fun x1 x2 z hF => ih x1 x2 z hF
    generalize f_it (b_vo_forgetRedeemed_12 ) n = k12 at hF K12
    unfold b_vo_forgetRedeemed_12 at hF
    dsimp only at hF
    refine lv_iload_n hx hb d_vo_forgetRedeemed_12 rfl (lv_at hl 2 rfl) ?_
    refine lv_iload_n hx hb d_vo_forgetRedeemed_13 rfl (lv_at hl 1 rfl) ?_
    refine lv_icmp_ge (tgt := 49) hx hb d_vo_forgetRedeemed_14 (by decide) (fun h1 => ?_) (fun h1 => ?_)
    · replace hF := (if_pos h1).symm.trans hF
      refine lv_iload_n hx hb d_vo_forgetRedeemed_49 rfl (lv_at hl 1 rfl) ?_
      refine lv_aload_n hx hb d_vo_forgetRedeemed_50 rfl (lv_at hl 0 rfl) ?_
      refine hw_get (k := 19) (i := 0) (n := 1) (j := 3) (v := .int (f_gI z 19 0 3)) hx hb hts hown hK hW fl_vo_22 rfl (by omega) rfl d_vo_forgetRedeemed_51 ?_
      refine lv_isub hx hb d_vo_forgetRedeemed_54 ?_
      exact hw_iret hx hb hr hlk (vp_nar_int _) hW hS (by omega) (by omega) d_vo_forgetRedeemed_55 hF
    · replace hF := (if_neg h1).symm.trans hF
      refine lv_aload_n hx hb d_vo_forgetRedeemed_17 rfl (lv_at hl 0 rfl) ?_
      refine hw_get (k := 19) (i := 0) (n := 1) (j := 2) (v := .ref (L 22 0)) hx hb hts hown hK hW fl_vo_18 rfl (by omega) rfl d_vo_forgetRedeemed_18 ?_
      refine lv_iload_n hx hb d_vo_forgetRedeemed_21 rfl (lv_at hl 2 rfl) ?_
      obtain ⟨g2, hF⟩ := f_gd_some hF
      refine hw_zald (k := 22) (i := 0) (n := 1) hx hb hK hW (by decide) rfl (by omega) rfl g2 d_vo_forgetRedeemed_22 ?_
      refine lv_if_ne (tgt := 43) hx hb d_vo_forgetRedeemed_23 (by decide) (fun h3 => ?_) (fun h3 => ?_)
      · replace hF := (if_neg h3).symm.trans hF
        exact B43 k12 K12 x1 x2 z hF _ _ _ _ _ hW hS (lv_sub hl [0, 1, 2] rfl) (by omega) (by omega)
      · replace hF := (if_pos h3).symm.trans hF
        refine lv_aload_n hx hb d_vo_forgetRedeemed_26 rfl (lv_at hl 0 rfl) ?_
        refine lv_aload_n hx hb d_vo_forgetRedeemed_27 rfl (lv_at hl 0 rfl) ?_
        refine hw_get (k := 19) (i := 0) (n := 1) (j := 0) (v := .ref (L 20 0)) hx hb hts hown hK hW fl_vo_9 rfl (by omega) rfl d_vo_forgetRedeemed_28 ?_
        refine lv_iload_n hx hb d_vo_forgetRedeemed_31 rfl (lv_at hl 2 rfl) ?_
        obtain ⟨g4, hF⟩ := f_gd_some hF
        refine hw_iald (k := 20) (i := 0) (n := 1) hx hb hK hW (by decide) rfl (by omega) rfl g4 d_vo_forgetRedeemed_32 ?_
        refine lv_aload_n hx hb d_vo_forgetRedeemed_33 rfl (lv_at hl 0 rfl) ?_
        refine hw_get (k := 19) (i := 0) (n := 1) (j := 1) (v := .ref (L 21 0)) hx hb hts hown hK hW fl_vo_15 rfl (by omega) rfl d_vo_forgetRedeemed_34 ?_
        refine lv_iload_n hx hb d_vo_forgetRedeemed_37 rfl (lv_at hl 2 rfl) ?_
        obtain ⟨g5, hF⟩ := f_gd_some hF
        refine hw_iald (k := 21) (i := 0) (n := 1) hx hb hK hW (by decide) rfl (by omega) rfl g5 d_vo_forgetRedeemed_38 ?_
        refine lv_iconst (v := 0) hx hb d_vo_forgetRedeemed_39 (by decide) ?_
        obtain ⟨v6, z6, hc6, hF⟩ := f_bd_some hF
        refine hw_VR (k := 19) (i := 0) (nk := 1) (As := [.int (f_gI z 20 0 (f_ix x2)), .int (f_gI z 21 0 (f_ix x2)), .int 0]) (rest := []) hx hb hml hown hts (c_vo_keep_ok l hl0 hLi (f_gI z 20 0 (f_ix x2)) (f_gI z 21 0 (f_ix x2)) 0  _ _ _ hc6) st_vo_29 (by decide) rfl (by omega) rfl rfl hK hZ hsz hS hW rfl hl.1 (Nat.le_of_ble_eq_true rfl) d_vo_forgetRedeemed_40 (by omega) (by omega) (by omega) (by omega) (fun H locs hW hS => ?_)
        exact B43 k12 K12 x1 x2 z6 hF _ _ _ _ _ hW hS (lv_sub hl [0, 1, 2] rfl) (by omega) (by omega)
  intro H locs ls cells slots hW hS hl hc hs
  have hl : lv_has ls 3 [(0, .ref (L 19 0))] := hl
  unfold F_vo_forgetRedeemed at hF
  refine lv_aload_n hx hb d_vo_forgetRedeemed_0 rfl (lv_at hl 0 rfl) ?_
  refine hw_get (k := 19) (i := 0) (n := 1) (j := 3) (v := .int (f_gI z 19 0 3)) hx hb hts hown hK hW fl_vo_22 rfl (by omega) rfl d_vo_forgetRedeemed_1 ?_
  refine lv_istore_n (lv' := [(1, .int (f_gI z 19 0 3)), (0, .ref (L 19 0))]) hx hb d_vo_forgetRedeemed_4 rfl hl (by decide) rfl (fun ls hl => ?_)
  refine lv_aload_n hx hb d_vo_forgetRedeemed_5 rfl (lv_at hl 1 rfl) ?_
  refine lv_iconst (v := 0) hx hb d_vo_forgetRedeemed_6 (by decide) ?_
  refine hw_put (k := 19) (i := 0) (n := 1) (j := 3) (v := 0) hx hb hts hown hK hLi hW hS fp_vo_22 (vp_nar_int _) rfl rfl (by omega) d_vo_forgetRedeemed_7 (fun H locs hW hS => ?_)
  refine lv_iconst (v := 0) hx hb d_vo_forgetRedeemed_10 (by decide) ?_
  refine lv_istore_n (lv' := [(2, .int 0), (1, .int (f_gI z 19 0 3)), (0, .ref (L 19 0))]) hx hb d_vo_forgetRedeemed_11 rfl hl (by decide) rfl (fun ls hl => ?_)
  exact B12 2000 (f_gI z 19 0 3) 0 (f_pI z 19 0 3 0) hF _ _ _ _ _ hW hS (lv_sub hl [2, 1, 0] rfl) (by omega) (by omega)
set_option maxRecDepth 100000 in
set_option maxHeartbeats 4000000 in
theorem c_b_clear_ok (l : Launch) (hl0 : l.stackTraces = false) {L : Nat → Nat → Nat} {Ar : Nat → ClassId} {D : va_G} {b0 : Nat} (hLi : f_L L b0)   (z : fST) (r : Int32 ⊕ Nat) (z' : fST) (hF : F_b_clear  z = some (r, z')) : f_C l y_b_clear wt 8 1 L Ar D b0 [.ref (L 0 0)] z (f_oi r) z' := by
  refine f_ofW (cc := c_b_clear) (maxL := 1) (ret := (some FieldType.int)) (by decide) w_b_clear (Nat.le_of_ble_eq_true rfl) ?_
  intro p e s m args below meth c R hRf hRl hRc hRs hx hb hr hlk hml hno hts hown hK hZ hsz
  intro H locs ls cells slots hW hS hl hc hs
  have hl : lv_has ls 1 [(0, .ref (L 0 0))] := hl
  unfold F_b_clear at hF
  refine lv_aload_n hx hb d_b_clear_0 rfl (lv_at hl 0 rfl) ?_
  rcases f_bx_some hF with ⟨v1, z1, hc1, hF⟩ | ⟨v1, z1, hc1, hF⟩
  · skip
    refine hw_VR (k := 0) (i := 0) (nk := 1) (As := []) (rest := []) hx hb hml hown hts (c_b_requireOn_ok l hl0 hLi   _ _ _ hc1) st_b_55 (by decide) rfl (by omega) rfl rfl hK hZ hsz hS hW rfl hl.1 (Nat.le_of_ble_eq_true rfl) d_b_clear_1 (by omega) (by omega) (by omega) (by omega) (fun H locs hW hS => ?_)
    refine lv_aload_n hx hb d_b_clear_4 rfl (lv_at hl 0 rfl) ?_
    refine hw_get (k := 0) (i := 0) (n := 1) (j := 3) (v := .ref (L 19 0)) hx hb hts hown hK hW fl_b_33 rfl (by omega) rfl d_b_clear_5 ?_
    obtain ⟨v2, z2, hc2, hF⟩ := f_bd_some hF
    refine hw_VR (k := 19) (i := 0) (nk := 1) (As := []) (rest := []) hx hb hml hown hts (c_vo_forgetRedeemed_ok l hl0 hLi   _ _ _ hc2) st_b_160 (by decide) rfl (by omega) rfl rfl hK hZ hsz hS hW rfl hl.1 (Nat.le_of_ble_eq_true rfl) d_b_clear_8 (by omega) (by omega) (by omega) (by omega) (fun H locs hW hS => ?_)
    exact hw_iretX hx hb hr hlk (vp_nar_int _) hW hS (by omega) (by omega) d_b_clear_11 hF
  · cases hF
    exact hw_VX (k := 0) (i := 0) (nk := 1) (As := []) (rest := []) hx hb hml hown hts (c_b_requireOn_ok l hl0 hLi   _ _ _ hc1) st_b_55 (by decide) rfl (by omega) rfl rfl hK hZ hsz hS hW rfl hl.1 (Nat.le_of_ble_eq_true rfl) d_b_clear_1 (by omega) (by omega) (by omega) (by omega) (fun q ce H locs hW hS hq hv hcl => hw_out (fun x hx => (hno x hx).elim) hlk hW hS hq hv hcl (by omega) (by omega))
set_option maxRecDepth 100000 in
set_option maxHeartbeats 4000000 in
theorem c_b_empty_ok (l : Launch) (hl0 : l.stackTraces = false) {L : Nat → Nat → Nat} {Ar : Nat → ClassId} {D : va_G} {b0 : Nat} (hLi : f_L L b0) (a1 : Int32) (a2 : Int32)  (z : fST) (r : Int32 ⊕ Nat) (z' : fST) (hF : F_b_empty a1 a2 z = some (r, z')) : f_C l y_b_empty wt 8 3 L Ar D b0 [.ref (L 0 0), .int a1, .int a2] z (f_oi r) z' := by
  refine f_ofW (cc := c_b_empty) (maxL := 4) (ret := (some FieldType.int)) (by decide) w_b_empty (Nat.le_of_ble_eq_true rfl) ?_
  intro p e s m args below meth c R hRf hRl hRc hRs hx hb hr hlk hml hno hts hown hK hZ hsz
  intro H locs ls cells slots hW hS hl hc hs
  have hl : lv_has ls 4 [(0, .ref (L 0 0)), (1, .int a1), (2, .int a2)] := hl
  unfold F_b_empty at hF
  refine lv_aload_n hx hb d_b_empty_0 rfl (lv_at hl 0 rfl) ?_
  rcases f_bx_some hF with ⟨v1, z1, hc1, hF⟩ | ⟨v1, z1, hc1, hF⟩
  · skip
    refine hw_VR (k := 0) (i := 0) (nk := 1) (As := []) (rest := []) hx hb hml hown hts (c_b_requireOn_ok l hl0 hLi   _ _ _ hc1) st_b_55 (by decide) rfl (by omega) rfl rfl hK hZ hsz hS hW rfl hl.1 (Nat.le_of_ble_eq_true rfl) d_b_empty_1 (by omega) (by omega) (by omega) (by omega) (fun H locs hW hS => ?_)
    refine lv_iload_n hx hb d_b_empty_4 rfl (lv_at hl 1 rfl) ?_
    refine lv_iconst (v := 3) hx hb d_b_empty_5 (by decide) ?_
    obtain ⟨v2, z2, hc2, hF⟩ := f_bd_some hF
    refine hw_SR (As := [.int a1, .int 3]) (rest := []) hx hb hml hown hts (c_b_isIndex_ok l hl0 hLi a1 3  _ _ _ hc2) st_b_58 hK hZ hsz hS hW rfl hl.1 (Nat.le_of_ble_eq_true rfl) d_b_empty_6 (by omega) (by omega) (by omega) (by omega) (fun H locs hW hS => ?_)
    rcases f_bx_some hF with ⟨v3, z3, hc3, hF⟩ | ⟨v3, z3, hc3, hF⟩
    · skip
      refine hw_SR (As := [.int v2]) (rest := []) hx hb hml hown hts (c_b_require_ok l hl0 hLi v2  _ _ _ hc3) st_b_62 hK hZ hsz hS hW rfl hl.1 (Nat.le_of_ble_eq_true rfl) d_b_empty_9 (by omega) (by omega) (by omega) (by omega) (fun H locs hW hS => ?_)
      refine lv_iload_n hx hb d_b_empty_12 rfl (lv_at hl 2 rfl) ?_
      refine lv_iconst (v := 0) hx hb d_b_empty_13 (by decide) ?_
      refine lv_sipush (v := 200) hx hb d_b_empty_14 (by decide) ?_
      obtain ⟨v4, z4, hc4, hF⟩ := f_bd_some hF
      refine hw_SR (As := [.int a2, .int 0, .int 200]) (rest := []) hx hb hml hown hts (c_b_isWithin_ok l hl0 hLi a2 0 200  _ _ _ hc4) st_b_66 hK hZ hsz hS hW rfl hl.1 (Nat.le_of_ble_eq_true rfl) d_b_empty_17 (by omega) (by omega) (by omega) (by omega) (fun H locs hW hS => ?_)
      rcases f_bx_some hF with ⟨v5, z5, hc5, hF⟩ | ⟨v5, z5, hc5, hF⟩
      · skip
        refine hw_SR (As := [.int v4]) (rest := []) hx hb hml hown hts (c_b_require_ok l hl0 hLi v4  _ _ _ hc5) st_b_62 hK hZ hsz hS hW rfl hl.1 (Nat.le_of_ble_eq_true rfl) d_b_empty_20 (by omega) (by omega) (by omega) (by omega) (fun H locs hW hS => ?_)
        refine lv_aload_n hx hb d_b_empty_23 rfl (lv_at hl 0 rfl) ?_
        refine hw_get (k := 0) (i := 0) (n := 1) (j := 2) (v := .ref (L 16 0)) hx hb hts hown hK hW fl_b_26 rfl (by omega) rfl d_b_empty_24 ?_
        refine hw_get (k := 16) (i := 0) (n := 1) (j := 0) (v := .ref (L 17 0)) hx hb hts hown hK hW fl_b_164 rfl (by omega) rfl d_b_empty_27 ?_
        refine lv_iload_n hx hb d_b_empty_30 rfl (lv_at hl 1 rfl) ?_
        obtain ⟨g6, hF⟩ := f_gd_some hF
        refine hw_iald (k := 17) (i := 0) (n := 1) hx hb hK hW (by decide) rfl (by omega) rfl g6 d_b_empty_31 ?_
        refine lv_istore_n (lv' := [(3, .int (f_gI z5 17 0 (f_ix a1))), (0, .ref (L 0 0)), (1, .int a1), (2, .int a2)]) hx hb d_b_empty_32 rfl hl (by decide) rfl (fun ls hl => ?_)
        refine lv_aload_n hx hb d_b_empty_33 rfl (lv_at hl 1 rfl) ?_
        refine hw_get (k := 0) (i := 0) (n := 1) (j := 2) (v := .ref (L 16 0)) hx hb hts hown hK hW fl_b_26 rfl (by omega) rfl d_b_empty_34 ?_
        refine hw_get (k := 16) (i := 0) (n := 1) (j := 0) (v := .ref (L 17 0)) hx hb hts hown hK hW fl_b_164 rfl (by omega) rfl d_b_empty_37 ?_
        refine lv_iload_n hx hb d_b_empty_40 rfl (lv_at hl 2 rfl) ?_
        refine lv_iconst (v := 0) hx hb d_b_empty_41 (by decide) ?_
        obtain ⟨g7, hF⟩ := f_gd_some hF
        refine hw_iast (k := 17) (i := 0) (n := 1) hx hb hK hLi hW hS (by decide) rfl (by omega) rfl g7 d_b_empty_42 (fun H locs hW hS => ?_)
        refine lv_aload_n hx hb d_b_empty_43 rfl (lv_at hl 1 rfl) ?_
        refine hw_get (k := 0) (i := 0) (n := 1) (j := 2) (v := .ref (L 16 0)) hx hb hts hown hK hW fl_b_26 rfl (by omega) rfl d_b_empty_44 ?_
        refine hw_get (k := 16) (i := 0) (n := 1) (j := 1) (v := .ref (L 18 0)) hx hb hts hown hK hW fl_b_167 rfl (by omega) rfl d_b_empty_47 ?_
        refine lv_iload_n hx hb d_b_empty_50 rfl (lv_at hl 2 rfl) ?_
        refine lv_iload_n hx hb d_b_empty_51 rfl (lv_at hl 3 rfl) ?_
        obtain ⟨g8, hF⟩ := f_gd_some hF
        refine hw_iast (k := 18) (i := 0) (n := 1) hx hb hK hLi hW hS (by decide) rfl (by omega) rfl g8 d_b_empty_52 (fun H locs hW hS => ?_)
        refine lv_iload_n hx hb d_b_empty_53 rfl (lv_at hl 0 rfl) ?_
        exact hw_iretX hx hb hr hlk (vp_nar_int _) hW hS (by omega) (by omega) d_b_empty_54 hF
      · cases hF
        exact hw_SX (As := [.int v4]) (rest := []) hx hb hml hown hts (c_b_require_ok l hl0 hLi v4  _ _ _ hc5) st_b_62 hK hZ hsz hS hW rfl hl.1 (Nat.le_of_ble_eq_true rfl) d_b_empty_20 (by omega) (by omega) (by omega) (by omega) (fun q ce H locs hW hS hq hv hcl => hw_out (fun x hx => (hno x hx).elim) hlk hW hS hq hv hcl (by omega) (by omega))
    · cases hF
      exact hw_SX (As := [.int v2]) (rest := []) hx hb hml hown hts (c_b_require_ok l hl0 hLi v2  _ _ _ hc3) st_b_62 hK hZ hsz hS hW rfl hl.1 (Nat.le_of_ble_eq_true rfl) d_b_empty_9 (by omega) (by omega) (by omega) (by omega) (fun q ce H locs hW hS hq hv hcl => hw_out (fun x hx => (hno x hx).elim) hlk hW hS hq hv hcl (by omega) (by omega))
  · cases hF
    exact hw_VX (k := 0) (i := 0) (nk := 1) (As := []) (rest := []) hx hb hml hown hts (c_b_requireOn_ok l hl0 hLi   _ _ _ hc1) st_b_55 (by decide) rfl (by omega) rfl rfl hK hZ hsz hS hW rfl hl.1 (Nat.le_of_ble_eq_true rfl) d_b_empty_1 (by omega) (by omega) (by omega) (by omega) (fun q ce H locs hW hS hq hv hcl => hw_out (fun x hx => (hno x hx).elim) hlk hW hS hq hv hcl (by omega) (by omega))
set_option maxRecDepth 100000 in
set_option maxHeartbeats 4000000 in
theorem c_b_service_ok (l : Launch) (hl0 : l.stackTraces = false) {L : Nat → Nat → Nat} {Ar : Nat → ClassId} {D : va_G} {b0 : Nat} (hLi : f_L L b0)   (z : fST) (r : Int32 ⊕ Nat) (z' : fST) (hF : F_b_service  z = some (r, z')) : f_C l y_b_service wt 8 2 L Ar D b0 [.ref (L 0 0)] z (f_oi r) z' := by
  refine f_ofW (cc := c_b_service) (maxL := 2) (ret := (some FieldType.boolean)) (by decide) w_b_service (Nat.le_of_ble_eq_true rfl) ?_
  intro p e s m args below meth c R hRf hRl hRc hRs hx hb hr hlk hml hno hts hown hK hZ hsz
  intro H locs ls cells slots hW hS hl hc hs
  have hl : lv_has ls 2 [(0, .ref (L 0 0))] := hl
  unfold F_b_service at hF
  refine lv_aload_n hx hb d_b_service_0 rfl (lv_at hl 0 rfl) ?_
  rcases f_bx_some hF with ⟨v1, z1, hc1, hF⟩ | ⟨v1, z1, hc1, hF⟩
  · skip
    refine hw_VR (k := 0) (i := 0) (nk := 1) (As := []) (rest := []) hx hb hml hown hts (c_b_requireOn_ok l hl0 hLi   _ _ _ hc1) st_b_55 (by decide) rfl (by omega) rfl rfl hK hZ hsz hS hW rfl hl.1 (Nat.le_of_ble_eq_true rfl) d_b_service_1 (by omega) (by omega) (by omega) (by omega) (fun H locs hW hS => ?_)
    refine lv_aload_n hx hb d_b_service_4 rfl (lv_at hl 0 rfl) ?_
    rcases f_bx_some hF with ⟨v2, z2, hc2, hF⟩ | ⟨v2, z2, hc2, hF⟩
    · skip
      refine hw_VR (k := 0) (i := 0) (nk := 1) (As := []) (rest := []) hx hb hml hown hts (c_b_requireEmptyBelt_ok l hl0 hLi   _ _ _ hc2) st_b_74 (by decide) rfl (by omega) rfl rfl hK hZ hsz hS hW rfl hl.1 (Nat.le_of_ble_eq_true rfl) d_b_service_5 (by omega) (by omega) (by omega) (by omega) (fun H locs hW hS => ?_)
      refine lv_aload_n hx hb d_b_service_8 rfl (lv_at hl 0 rfl) ?_
      obtain ⟨v3, z3, hc3, hF⟩ := f_bd_some hF
      refine hw_VR (k := 0) (i := 0) (nk := 1) (As := []) (rest := []) hx hb hml hown hts (c_b_isSuspicious_ok l hl0 hLi   _ _ _ hc3) st_b_170 (by decide) rfl (by omega) rfl rfl hK hZ hsz hS hW rfl hl.1 (Nat.le_of_ble_eq_true rfl) d_b_service_9 (by omega) (by omega) (by omega) (by omega) (fun H locs hW hS => ?_)
      refine lv_istore_n (lv' := [(1, .int v3), (0, .ref (L 0 0))]) hx hb d_b_service_12 rfl hl (by decide) rfl (fun ls hl => ?_)
      refine lv_aload_n hx hb d_b_service_13 rfl (lv_at hl 1 rfl) ?_
      refine lv_iconst (v := 0) hx hb d_b_service_14 (by decide) ?_
      refine hw_put (k := 0) (i := 0) (n := 1) (j := 11) (v := 0) hx hb hts hown hK hLi hW hS fp_b_133 (vp_nar_int _) rfl rfl (by omega) d_b_service_15 (fun H locs hW hS => ?_)
      refine lv_iload_n hx hb d_b_service_18 rfl (lv_at hl 0 rfl) ?_
      obtain ⟨g4, hF⟩ := f_gd_some hF
      exact hw_iretX hx hb hr hlk (f_nZ (f_bz_or g4)) hW hS (by omega) (by omega) d_b_service_19 hF
    · cases hF
      exact hw_VX (k := 0) (i := 0) (nk := 1) (As := []) (rest := []) hx hb hml hown hts (c_b_requireEmptyBelt_ok l hl0 hLi   _ _ _ hc2) st_b_74 (by decide) rfl (by omega) rfl rfl hK hZ hsz hS hW rfl hl.1 (Nat.le_of_ble_eq_true rfl) d_b_service_5 (by omega) (by omega) (by omega) (by omega) (fun q ce H locs hW hS hq hv hcl => hw_out (fun x hx => (hno x hx).elim) hlk hW hS hq hv hcl (by omega) (by omega))
  · cases hF
    exact hw_VX (k := 0) (i := 0) (nk := 1) (As := []) (rest := []) hx hb hml hown hts (c_b_requireOn_ok l hl0 hLi   _ _ _ hc1) st_b_55 (by decide) rfl (by omega) rfl rfl hK hZ hsz hS hW rfl hl.1 (Nat.le_of_ble_eq_true rfl) d_b_service_1 (by omega) (by omega) (by omega) (by omega) (fun q ce H locs hW hS hq hv hcl => hw_out (fun x hx => (hno x hx).elim) hlk hW hS hq hv hcl (by omega) (by omega))
set_option maxRecDepth 100000 in
set_option maxHeartbeats 4000000 in
theorem c_b_cut_ok (l : Launch) (hl0 : l.stackTraces = false) {L : Nat → Nat → Nat} {Ar : Nat → ClassId} {D : va_G} {b0 : Nat} (hLi : f_L L b0) (a1 : Int32)  (z : fST) (r : Unit ⊕ Nat) (z' : fST) (hF : F_b_cut a1 z = some (r, z')) : f_C l y_b_cut wt 8 1 L Ar D b0 [.ref (L 0 0), .int a1] z (f_ov r) z' := by
  refine f_ofW (cc := c_b_cut) (maxL := 2) (ret := (Option.none : Option Jvm.ClassFile.FieldType)) (by decide) w_b_cut (Nat.le_of_ble_eq_true rfl) ?_
  intro p e s m args below meth c R hRf hRl hRc hRs hx hb hr hlk hml hno hts hown hK hZ hsz
  intro H locs ls cells slots hW hS hl hc hs
  have hl : lv_has ls 2 [(0, .ref (L 0 0)), (1, .int a1)] := hl
  unfold F_b_cut at hF
  refine lv_iload_n hx hb d_b_cut_0 rfl (lv_at hl 1 rfl) ?_
  refine lv_iconst (v := 0) hx hb d_b_cut_1 (by decide) ?_
  refine lv_sipush (v := 1000) hx hb d_b_cut_2 (by decide) ?_
  obtain ⟨v1, z1, hc1, hF⟩ := f_bd_some hF
  refine hw_SR (As := [.int a1, .int 0, .int 1000]) (rest := []) hx hb hml hown hts (c_b_isWithin_ok l hl0 hLi a1 0 1000  _ _ _ hc1) st_b_66 hK hZ hsz hS hW rfl hl.1 (Nat.le_of_ble_eq_true rfl) d_b_cut_5 (by omega) (by omega) (by omega) (by omega) (fun H locs hW hS => ?_)
  rcases f_bx_some hF with ⟨v2, z2, hc2, hF⟩ | ⟨v2, z2, hc2, hF⟩
  · skip
    refine hw_SR (As := [.int v1]) (rest := []) hx hb hml hown hts (c_b_require_ok l hl0 hLi v1  _ _ _ hc2) st_b_62 hK hZ hsz hS hW rfl hl.1 (Nat.le_of_ble_eq_true rfl) d_b_cut_8 (by omega) (by omega) (by omega) (by omega) (fun H locs hW hS => ?_)
    refine lv_aload_n hx hb d_b_cut_11 rfl (lv_at hl 0 rfl) ?_
    refine hw_get (k := 0) (i := 0) (n := 1) (j := 4) (v := .ref (L 23 0)) hx hb hts hown hK hW fl_b_40 rfl (by omega) rfl d_b_cut_12 ?_
    refine lv_iload_n hx hb d_b_cut_15 rfl (lv_at hl 1 rfl) ?_
    refine hw_put (k := 23) (i := 0) (n := 1) (j := 1) (v := a1) hx hb hts hown hK hLi hW hS fp_b_173 (vp_nar_int _) rfl rfl (by omega) d_b_cut_16 (fun H locs hW hS => ?_)
    exact hw_vretX hx hb hr hlk hW hS (by omega) (by omega) d_b_cut_19 hF
  · cases hF
    exact hw_SX (As := [.int v1]) (rest := []) hx hb hml hown hts (c_b_require_ok l hl0 hLi v1  _ _ _ hc2) st_b_62 hK hZ hsz hS hW rfl hl.1 (Nat.le_of_ble_eq_true rfl) d_b_cut_8 (by omega) (by omega) (by omega) (by omega) (fun q ce H locs hW hS hq hv hcl => hw_out (fun x hx => (hno x hx).elim) hlk hW hS hq hv hcl (by omega) (by omega))
set_option maxRecDepth 100000 in
set_option maxHeartbeats 4000000 in
theorem c_be_forgetBefore_ok (l : Launch) (hl0 : l.stackTraces = false) {L : Nat → Nat → Nat} {Ar : Nat → ClassId} {D : va_G} {b0 : Nat} (hLi : f_L L b0) (a1 : Int32)  (z : fST) (r : Unit) (z' : fST) (hF : F_be_forgetBefore a1 z = some (r, z')) : f_C l y_be_forgetBefore wt 2 0 L Ar D b0 [.ref (L 11 0), .int a1] z (.inl none) z' := by
  refine f_ofW (cc := c_be_forgetBefore) (maxL := 3) (ret := (Option.none : Option Jvm.ClassFile.FieldType)) (by decide) w_be_forgetBefore (Nat.le_of_ble_eq_true rfl) ?_
  intro p e s m args below meth c R hRf hRl hRc hRs hx hb hr hlk hml hno hts hown hK hZ hsz
  have B32 : ∀ (k2 : Int32 × Int32 × fST → Option (Unit × fST)) (K2 : ∀ (x1 : Int32) (x2 : Int32) (z : fST), k2 (x1, x2, z) = some (r, z') →  f_B p l e R s m args below meth c L Ar D b0 3 0 (f_E below args s L Ar D b0 0 (.inl none) z') 0 2 [(0, .ref (L 11 0)), (1, .int x1), (2, .int x2)] [] z) (x1 : Int32) (x2 : Int32) (z : fST), b_be_forgetBefore_32 k2 x1 x2 z = some (r, z') →  f_B p l e R s m args below meth c L Ar D b0 3 0 (f_E below args s L Ar D b0 0 (.inl none) z') 0 32 [(0, .ref (L 11 0)), (1, .int x1), (2, .int x2)] [] z := by
    intro k2 K2 x1 x2 z hF  H locs ls cells slots hW hS hl hc hs
    unfold b_be_forgetBefore_32 at hF
    refine lv_iinc (k := 2) (x := x2) (v := x2 + 1) (lv' := [(2, .int (x2 + 1)), (0, .ref (L 11 0)), (1, .int x1)]) hx hb d_be_forgetBefore_32 hl rfl rfl (by decide) rfl (fun ls hl => ?_)
    refine lv_goto (tgt := 2) hx hb d_be_forgetBefore_35 (by decide) ?_
    exact K2 x1 (x2 + 1) z hF _ _ _ _ _ hW hS (lv_sub hl [1, 2, 0] rfl) (by omega) (by omega)
  have B2 : ∀  (n : Nat) (x1 : Int32) (x2 : Int32) (z : fST), f_it (b_be_forgetBefore_2 ) n (x1, x2, z) = some (r, z') →  f_B p l e R s m args below meth c L Ar D b0 3 0 (f_E below args s L Ar D b0 0 (.inl none) z') 0 2 [(0, .ref (L 11 0)), (1, .int x1), (2, .int x2)] [] z := by
    intro  n
    induction n with
    | zero => intro x1 x2 z hF; cases hF
    | succ n ih =>
    intro x1 x2 z hF  H locs ls cells slots hW hS hl hc hs
    replace hF := f_it_s hF
    have K2 : ∀ (x1 : Int32) (x2 : Int32) (z : fST), f_it (b_be_forgetBefore_2 ) n (x1, x2, z) = some (r, z') →  f_B p l e R s m args below meth c L Ar D b0 3 0 (f_E below args s L Ar D b0 0 (.inl none) z') 0 2 [(0, .ref (L 11 0)), (1, .int x1), (2, .int x2)] [] z := fun x1 x2 z hF => ih x1 x2 z hF
    generalize f_it (b_be_forgetBefore_2 ) n = k2 at hF K2
    unfold b_be_forgetBefore_2 at hF
    dsimp only at hF
    refine lv_iload_n hx hb d_be_forgetBefore_2 rfl (lv_at hl 2 rfl) ?_
    refine lv_aload_n hx hb d_be_forgetBefore_3 rfl (lv_at hl 0 rfl) ?_
    refine hw_get (k := 11) (i := 0) (n := 1) (j := 1) (v := .int (f_gI z 11 0 1)) hx hb hts hown hK hW fl_be_18 rfl (by omega) rfl d_be_forgetBefore_4 ?_
    refine lv_icmp_ge (tgt := 38) hx hb d_be_forgetBefore_7 (by decide) (fun h1 => ?_) (fun h1 => ?_)
    · replace hF := (if_pos h1).symm.trans hF
      exact hw_vret hx hb hr hlk hW hS (by omega) (by omega) d_be_forgetBefore_38 hF
    · replace hF := (if_neg h1).symm.trans hF
      refine lv_aload_n hx hb d_be_forgetBefore_10 rfl (lv_at hl 0 rfl) ?_
      refine hw_get (k := 11) (i := 0) (n := 1) (j := 0) (v := .ref (L 12 0)) hx hb hts hown hK hW fl_be_11 rfl (by omega) rfl d_be_forgetBefore_11 ?_
      refine lv_iload_n hx hb d_be_forgetBefore_14 rfl (lv_at hl 2 rfl) ?_
      obtain ⟨g2, hF⟩ := f_gd_some hF
      obtain ⟨g3, hF⟩ := f_gd_some hF
      have g3 := of_decide_eq_true g3
      refine hw_rald hx hb hK hW g2 d_be_forgetBefore_15 ?_
      refine hw_get (k := 13) (i := f_gR z (f_ix x2)) (n := 16) (j := 4) (v := .int (f_gI z 13 (f_gR z (f_ix x2)) 4)) hx hb hts hown hK hW fl_be_40 rfl (by omega) rfl d_be_forgetBefore_16 ?_
      refine lv_iload_n hx hb d_be_forgetBefore_19 rfl (lv_at hl 1 rfl) ?_
      refine lv_icmp_ge (tgt := 32) hx hb d_be_forgetBefore_20 (by decide) (fun h4 => ?_) (fun h4 => ?_)
      · replace hF := (if_pos h4).symm.trans hF
        exact B32 k2 K2 x1 x2 z hF _ _ _ _ _ hW hS (lv_sub hl [0, 1, 2] rfl) (by omega) (by omega)
      · replace hF := (if_neg h4).symm.trans hF
        refine lv_aload_n hx hb d_be_forgetBefore_23 rfl (lv_at hl 0 rfl) ?_
        refine hw_get (k := 11) (i := 0) (n := 1) (j := 0) (v := .ref (L 12 0)) hx hb hts hown hK hW fl_be_11 rfl (by omega) rfl d_be_forgetBefore_24 ?_
        refine lv_iload_n hx hb d_be_forgetBefore_27 rfl (lv_at hl 2 rfl) ?_
        obtain ⟨g5, hF⟩ := f_gd_some hF
        obtain ⟨g6, hF⟩ := f_gd_some hF
        have g6 := of_decide_eq_true g6
        refine hw_rald hx hb hK hW g5 d_be_forgetBefore_28 ?_
        obtain ⟨v7, z7, hc7, hF⟩ := f_bd_some hF
        refine hw_VR (k := 13) (i := f_gR z (f_ix x2)) (nk := 16) (As := []) (rest := []) hx hb hml hown hts (c_co_forget_ok l hl0 hLi (f_gR z (f_ix x2)) (by omega) _ _ _ hc7) st_be_50 (by decide) rfl (by omega) rfl rfl hK hZ hsz hS hW rfl hl.1 (Nat.le_of_ble_eq_true rfl) d_be_forgetBefore_29 (by omega) (by omega) (by omega) (by omega) (fun H locs hW hS => ?_)
        exact B32 k2 K2 x1 x2 z7 hF _ _ _ _ _ hW hS (lv_sub hl [0, 1, 2] rfl) (by omega) (by omega)
  intro H locs ls cells slots hW hS hl hc hs
  have hl : lv_has ls 3 [(0, .ref (L 11 0)), (1, .int a1)] := hl
  unfold F_be_forgetBefore at hF
  refine lv_iconst (v := 0) hx hb d_be_forgetBefore_0 (by decide) ?_
  refine lv_istore_n (lv' := [(2, .int 0), (0, .ref (L 11 0)), (1, .int a1)]) hx hb d_be_forgetBefore_1 rfl hl (by decide) rfl (fun ls hl => ?_)
  exact B2 2000 a1 0 z hF _ _ _ _ _ hW hS (lv_sub hl [1, 2, 0] rfl) (by omega) (by omega)
set_option maxRecDepth 100000 in
set_option maxHeartbeats 4000000 in
theorem c_b_payUnpaid_ok (l : Launch) (hl0 : l.stackTraces = false) {L : Nat → Nat → Nat} {Ar : Nat → ClassId} {D : va_G} {b0 : Nat} (hLi : f_L L b0)   (z : fST) (r : Unit) (z' : fST) (hF : F_b_payUnpaid  z = some (r, z')) : f_C l y_b_payUnpaid wt 3 0 L Ar D b0 [.ref (L 0 0)] z (.inl none) z' := by
  refine f_ofW (cc := c_b_payUnpaid) (maxL := 3) (ret := (Option.none : Option Jvm.ClassFile.FieldType)) (by decide) w_b_payUnpaid (Nat.le_of_ble_eq_true rfl) ?_
  intro p e s m args below meth c R hRf hRl hRc hRs hx hb hr hlk hml hno hts hown hK hZ hsz
  have B54 : ∀ (k2 : Int32 × fST → Option (Unit × fST)) (K2 : ∀ (x1 : Int32) (z : fST), k2 (x1, z) = some (r, z') →  f_B p l e R s m args below meth c L Ar D b0 3 0 (f_E below args s L Ar D b0 0 (.inl none) z') 0 2 [(0, .ref (L 0 0)), (1, .int x1)] [] z) (x1 : Int32) (z : fST), b_b_payUnpaid_54 k2 x1 z = some (r, z') →  f_B p l e R s m args below meth c L Ar D b0 3 0 (f_E below args s L Ar D b0 0 (.inl none) z') 0 54 [(0, .ref (L 0 0)), (1, .int x1)] [] z := by
    intro k2 K2 x1 z hF  H locs ls cells slots hW hS hl hc hs
    unfold b_b_payUnpaid_54 at hF
    refine lv_iinc (k := 1) (x := x1) (v := x1 + 1) (lv' := [(1, .int (x1 + 1)), (0, .ref (L 0 0))]) hx hb d_b_payUnpaid_54 hl rfl rfl (by decide) rfl (fun ls hl => ?_)
    refine lv_goto (tgt := 2) hx hb d_b_payUnpaid_57 (by decide) ?_
    exact K2 (x1 + 1) z hF _ _ _ _ _ hW hS (lv_sub hl [1, 0] rfl) (by omega) (by omega)
  have B2 : ∀  (n : Nat) (x1 : Int32) (z : fST), f_it (b_b_payUnpaid_2 ) n (x1, z) = some (r, z') →  f_B p l e R s m args below meth c L Ar D b0 3 0 (f_E below args s L Ar D b0 0 (.inl none) z') 0 2 [(0, .ref (L 0 0)), (1, .int x1)] [] z := by
    intro  n
    induction n with
    | zero => intro x1 z hF; cases hF
    | succ n ih =>
    intro x1 z hF  H locs ls cells slots hW hS hl hc hs
    replace hF := f_it_s hF
    have K2 : ∀ (x1 : Int32) (z : fST), f_it (b_b_payUnpaid_2 ) n (x1, z) = some (r, z') →  f_B p l e R s m args below meth c L Ar D b0 3 0 (f_E below args s L Ar D b0 0 (.inl none) z') 0 2 [(0, .ref (L 0 0)), (1, .int x1)] [] z := fun x1 z hF => ih x1 z hF
    generalize f_it (b_b_payUnpaid_2 ) n = k2 at hF K2
    unfold b_b_payUnpaid_2 at hF
    dsimp only at hF
    refine lv_iload_n hx hb d_b_payUnpaid_2 rfl (lv_at hl 1 rfl) ?_
    refine lv_aload_n hx hb d_b_payUnpaid_3 rfl (lv_at hl 0 rfl) ?_
    refine hw_get (k := 0) (i := 0) (n := 1) (j := 1) (v := .ref (L 11 0)) hx hb hts hown hK hW fl_b_19 rfl (by omega) rfl d_b_payUnpaid_4 ?_
    refine hw_get (k := 11) (i := 0) (n := 1) (j := 1) (v := .int (f_gI z 11 0 1)) hx hb hts hown hK hW fl_b_127 rfl (by omega) rfl d_b_payUnpaid_7 ?_
    refine lv_icmp_ge (tgt := 60) hx hb d_b_payUnpaid_10 (by decide) (fun h1 => ?_) (fun h1 => ?_)
    · replace hF := (if_pos h1).symm.trans hF
      exact hw_vret hx hb hr hlk hW hS (by omega) (by omega) d_b_payUnpaid_60 hF
    · replace hF := (if_neg h1).symm.trans hF
      refine lv_aload_n hx hb d_b_payUnpaid_13 rfl (lv_at hl 0 rfl) ?_
      refine hw_get (k := 0) (i := 0) (n := 1) (j := 4) (v := .ref (L 23 0)) hx hb hts hown hK hW fl_b_40 rfl (by omega) rfl d_b_payUnpaid_14 ?_
      refine hw_get (k := 23) (i := 0) (n := 1) (j := 2) (v := .int (f_gI z 23 0 2)) hx hb hts hown hK hW fl_b_116 rfl (by omega) rfl d_b_payUnpaid_17 ?_
      refine lv_if_eq (tgt := 60) hx hb d_b_payUnpaid_20 (by decide) (fun h2 => ?_) (fun h2 => ?_)
      · replace hF := (if_pos h2).symm.trans hF
        exact hw_vret hx hb hr hlk hW hS (by omega) (by omega) d_b_payUnpaid_60 hF
      · replace hF := (if_neg h2).symm.trans hF
        refine lv_aload_n hx hb d_b_payUnpaid_23 rfl (lv_at hl 0 rfl) ?_
        refine hw_get (k := 0) (i := 0) (n := 1) (j := 1) (v := .ref (L 11 0)) hx hb hts hown hK hW fl_b_19 rfl (by omega) rfl d_b_payUnpaid_24 ?_
        refine hw_get (k := 11) (i := 0) (n := 1) (j := 0) (v := .ref (L 12 0)) hx hb hts hown hK hW fl_b_232 rfl (by omega) rfl d_b_payUnpaid_27 ?_
        refine lv_iload_n hx hb d_b_payUnpaid_30 rfl (lv_at hl 1 rfl) ?_
        obtain ⟨g3, hF⟩ := f_gd_some hF
        obtain ⟨g4, hF⟩ := f_gd_some hF
        have g4 := of_decide_eq_true g4
        refine hw_rald hx hb hK hW g3 d_b_payUnpaid_31 ?_
        refine lv_astore_n (lv' := [(2, .ref (L 13 (f_gR z (f_ix x1)))), (0, .ref (L 0 0)), (1, .int x1)]) hx hb d_b_payUnpaid_32 rfl hl (by decide) rfl (fun ls hl => ?_)
        refine lv_aload_n hx hb d_b_payUnpaid_33 rfl (lv_at hl 0 rfl) ?_
        refine hw_get (k := 13) (i := f_gR z (f_ix x1)) (n := 16) (j := 4) (v := .int (f_gI z 13 (f_gR z (f_ix x1)) 4)) hx hb hts hown hK hW fl_b_216 rfl (by omega) rfl d_b_payUnpaid_34 ?_
        refine lv_bipush (v := 105) hx hb d_b_payUnpaid_37 (by decide) ?_
        refine lv_icmp_lt (tgt := 54) hx hb d_b_payUnpaid_39 (by decide) (fun h5 => ?_) (fun h5 => ?_)
        · replace hF := (if_pos h5).symm.trans hF
          exact B54 k2 K2 x1 z hF _ _ _ _ _ hW hS (lv_sub hl [1, 2] rfl) (by omega) (by omega)
        · replace hF := (if_neg h5).symm.trans hF
          refine lv_aload_n hx hb d_b_payUnpaid_42 rfl (lv_at hl 0 rfl) ?_
          refine hw_get (k := 13) (i := f_gR z (f_ix x1)) (n := 16) (j := 8) (v := .int (f_gI z 13 (f_gR z (f_ix x1)) 8)) hx hb hts hown hK hW fl_b_228 rfl (by omega) rfl d_b_payUnpaid_43 ?_
          refine lv_if_ne (tgt := 54) hx hb d_b_payUnpaid_46 (by decide) (fun h6 => ?_) (fun h6 => ?_)
          · replace hF := (if_neg h6).symm.trans hF
            exact B54 k2 K2 x1 z hF _ _ _ _ _ hW hS (lv_sub hl [1, 2] rfl) (by omega) (by omega)
          · replace hF := (if_pos h6).symm.trans hF
            refine lv_aload_n hx hb d_b_payUnpaid_49 rfl (lv_at hl 1 rfl) ?_
            refine lv_aload_n hx hb d_b_payUnpaid_50 rfl (lv_at hl 0 rfl) ?_
            obtain ⟨v7, z7, hc7, hF⟩ := f_bd_some hF
            refine hw_VR (k := 0) (i := 0) (nk := 1) (As := [.ref (L 13 (f_gR z (f_ix x1)))]) (rest := []) hx hb hml hown hts (c_b_pay_ok l hl0 hLi (f_gR z (f_ix x1)) (by omega) _ _ _ hc7) st_b_264 (by decide) rfl (by omega) rfl rfl hK hZ hsz hS hW rfl hl.1 (Nat.le_of_ble_eq_true rfl) d_b_payUnpaid_51 (by omega) (by omega) (by omega) (by omega) (fun H locs hW hS => ?_)
            exact B54 k2 K2 x1 z7 hF _ _ _ _ _ hW hS (lv_sub hl [1, 2] rfl) (by omega) (by omega)
  intro H locs ls cells slots hW hS hl hc hs
  have hl : lv_has ls 3 [(0, .ref (L 0 0))] := hl
  unfold F_b_payUnpaid at hF
  refine lv_iconst (v := 0) hx hb d_b_payUnpaid_0 (by decide) ?_
  refine lv_istore_n (lv' := [(1, .int 0), (0, .ref (L 0 0))]) hx hb d_b_payUnpaid_1 rfl hl (by decide) rfl (fun ls hl => ?_)
  exact B2 2000 0 z hF _ _ _ _ _ hW hS (lv_sub hl [1, 0] rfl) (by omega) (by omega)
set_option maxRecDepth 100000 in
set_option maxHeartbeats 4000000 in
theorem c_b_binWaiting_ok (l : Launch) (hl0 : l.stackTraces = false) {L : Nat → Nat → Nat} {Ar : Nat → ClassId} {D : va_G} {b0 : Nat} (hLi : f_L L b0)   (z : fST) (r : Unit) (z' : fST) (hF : F_b_binWaiting  z = some (r, z')) : f_C l y_b_binWaiting wt 3 0 L Ar D b0 [.ref (L 0 0)] z (.inl none) z' := by
  refine f_ofW (cc := c_b_binWaiting) (maxL := 4) (ret := (Option.none : Option Jvm.ClassFile.FieldType)) (by decide) w_b_binWaiting (Nat.le_of_ble_eq_true rfl) ?_
  intro p e s m args below meth c R hRf hRl hRc hRs hx hb hr hlk hml hno hts hown hK hZ hsz
  have B62 : ∀ (k10 : Int32 × Int32 × fST → Option (Unit × fST)) (K10 : ∀ (x1 : Int32) (x2 : Int32) (z : fST), k10 (x1, x2, z) = some (r, z') →  f_B p l e R s m args below meth c L Ar D b0 4 0 (f_E below args s L Ar D b0 0 (.inl none) z') 0 10 [(0, .ref (L 0 0)), (1, .int x1), (2, .int x2)] [] z) (x1 : Int32) (x2 : Int32) (z : fST), b_b_binWaiting_62 k10 x1 x2 z = some (r, z') →  f_B p l e R s m args below meth c L Ar D b0 4 0 (f_E below args s L Ar D b0 0 (.inl none) z') 0 62 [(0, .ref (L 0 0)), (1, .int x1), (2, .int x2)] [] z := by
    intro k10 K10 x1 x2 z hF  H locs ls cells slots hW hS hl hc hs
    unfold b_b_binWaiting_62 at hF
    refine lv_iinc (k := 2) (x := x2) (v := x2 + (-1)) (lv' := [(2, .int (x2 + (-1))), (0, .ref (L 0 0)), (1, .int x1)]) hx hb d_b_binWaiting_62 hl rfl rfl (by decide) rfl (fun ls hl => ?_)
    refine lv_goto (tgt := 10) hx hb d_b_binWaiting_65 (by decide) ?_
    exact K10 x1 (x2 + (-1)) z hF _ _ _ _ _ hW hS (lv_sub hl [1, 2, 0] rfl) (by omega) (by omega)
  have B59 : ∀ (k10 : Int32 × Int32 × fST → Option (Unit × fST)) (K10 : ∀ (x1 : Int32) (x2 : Int32) (z : fST), k10 (x1, x2, z) = some (r, z') →  f_B p l e R s m args below meth c L Ar D b0 4 0 (f_E below args s L Ar D b0 0 (.inl none) z') 0 10 [(0, .ref (L 0 0)), (1, .int x1), (2, .int x2)] [] z) (x1 : Int32) (x2 : Int32) (z : fST), b_b_binWaiting_59 k10 x1 x2 z = some (r, z') →  f_B p l e R s m args below meth c L Ar D b0 4 0 (f_E below args s L Ar D b0 0 (.inl none) z') 0 59 [(0, .ref (L 0 0)), (1, .int x1), (2, .int x2)] [] z := by
    intro k10 K10 x1 x2 z hF  H locs ls cells slots hW hS hl hc hs
    unfold b_b_binWaiting_59 at hF
    refine lv_iinc (k := 1) (x := x1) (v := x1 + 1) (lv' := [(1, .int (x1 + 1)), (0, .ref (L 0 0)), (2, .int x2)]) hx hb d_b_binWaiting_59 hl rfl rfl (by decide) rfl (fun ls hl => ?_)
    exact B62 k10 K10 (x1 + 1) x2 z hF _ _ _ _ _ hW hS (lv_sub hl [1, 0, 2] rfl) (by omega) (by omega)
  have B46 : ∀ (k10 : Int32 × Int32 × fST → Option (Unit × fST)) (K10 : ∀ (x1 : Int32) (x2 : Int32) (z : fST), k10 (x1, x2, z) = some (r, z') →  f_B p l e R s m args below meth c L Ar D b0 4 0 (f_E below args s L Ar D b0 0 (.inl none) z') 0 10 [(0, .ref (L 0 0)), (1, .int x1), (2, .int x2)] [] z) (x1 : Int32) (x2 : Int32) (y0 : Int32) (z : fST), b_b_binWaiting_46 k10 x1 x2 y0 z = some (r, z') →  f_B p l e R s m args below meth c L Ar D b0 4 0 (f_E below args s L Ar D b0 0 (.inl none) z') 0 46 [(0, .ref (L 0 0)), (1, .int x1), (2, .int x2)] [.int y0] z := by
    intro k10 K10 x1 x2 y0 z hF  H locs ls cells slots hW hS hl hc hs
    unfold b_b_binWaiting_46 at hF
    refine lv_istore_n (lv' := [(3, .int y0), (0, .ref (L 0 0)), (1, .int x1), (2, .int x2)]) hx hb d_b_binWaiting_46 rfl hl (by decide) rfl (fun ls hl => ?_)
    refine lv_iload_n hx hb d_b_binWaiting_47 rfl (lv_at hl 0 rfl) ?_
    refine lv_if_eq (tgt := 59) hx hb d_b_binWaiting_48 (by decide) (fun h7 => ?_) (fun h7 => ?_)
    · replace hF := (if_pos h7).symm.trans hF
      exact B59 k10 K10 x1 x2 z hF _ _ _ _ _ hW hS (lv_sub hl [1, 2, 3] rfl) (by omega) (by omega)
    · replace hF := (if_neg h7).symm.trans hF
      refine lv_aload_n hx hb d_b_binWaiting_51 rfl (lv_at hl 1 rfl) ?_
      refine lv_iload_n hx hb d_b_binWaiting_52 rfl (lv_at hl 2 rfl) ?_
      obtain ⟨v8, z8, hc8, hF⟩ := f_bd_some hF
      refine hw_VR (k := 0) (i := 0) (nk := 1) (As := [.int x1]) (rest := []) hx hb hml hown hts (c_b_intoBin_ok l hl0 hLi x1  _ _ _ hc8) st_b_267 (by decide) rfl (by omega) rfl rfl hK hZ hsz hS hW rfl hl.1 (Nat.le_of_ble_eq_true rfl) d_b_binWaiting_53 (by omega) (by omega) (by omega) (by omega) (fun H locs hW hS => ?_)
      refine lv_if_ne (tgt := 62) hx hb d_b_binWaiting_56 (by decide) (fun h9 => ?_) (fun h9 => ?_)
      · replace hF := (if_neg h9).symm.trans hF
        exact B62 k10 K10 x1 x2 z8 hF _ _ _ _ _ hW hS (lv_sub hl [1, 2, 3] rfl) (by omega) (by omega)
      · replace hF := (if_pos h9).symm.trans hF
        exact B59 k10 K10 x1 x2 z8 hF _ _ _ _ _ hW hS (lv_sub hl [1, 2, 3] rfl) (by omega) (by omega)
  have B10 : ∀  (n : Nat) (x1 : Int32) (x2 : Int32) (z : fST), f_it (b_b_binWaiting_10 ) n (x1, x2, z) = some (r, z') →  f_B p l e R s m args below meth c L Ar D b0 4 0 (f_E below args s L Ar D b0 0 (.inl none) z') 0 10 [(0, .ref (L 0 0)), (1, .int x1), (2, .int x2)] [] z := by
    intro  n
    induction n with
    | zero => intro x1 x2 z hF; cases hF
    | succ n ih =>
    intro x1 x2 z hF  H locs ls cells slots hW hS hl hc hs
    replace hF := f_it_s hF
    have K10 : ∀ (x1 : Int32) (x2 : Int32) (z : fST), f_it (b_b_binWaiting_10 ) n (x1, x2, z) = some (r, z') →  f_B p l e R s m args below meth c L Ar D b0 4 0 (f_E below args s L Ar D b0 0 (.inl none) z') 0 10 [(0, .ref (L 0 0)), (1, .int x1), (2, .int x2)] [] z := fun x1 x2 z hF => ih x1 x2 z hF
    generalize f_it (b_b_binWaiting_10 ) n = k10 at hF K10
    unfold b_b_binWaiting_10 at hF
    dsimp only at hF
    refine lv_iload_n hx hb d_b_binWaiting_10 rfl (lv_at hl 2 rfl) ?_
    refine lv_if_le (tgt := 68) hx hb d_b_binWaiting_11 (by decide) (fun h1 => ?_) (fun h1 => ?_)
    · replace hF := (if_pos h1).symm.trans hF
      exact hw_vret hx hb hr hlk hW hS (by omega) (by omega) d_b_binWaiting_68 hF
    · replace hF := (if_neg h1).symm.trans hF
      refine lv_aload_n hx hb d_b_binWaiting_14 rfl (lv_at hl 0 rfl) ?_
      refine hw_get (k := 0) (i := 0) (n := 1) (j := 4) (v := .ref (L 23 0)) hx hb hts hown hK hW fl_b_40 rfl (by omega) rfl d_b_binWaiting_15 ?_
      refine hw_get (k := 23) (i := 0) (n := 1) (j := 2) (v := .int (f_gI z 23 0 2)) hx hb hts hown hK hW fl_b_116 rfl (by omega) rfl d_b_binWaiting_18 ?_
      refine lv_if_eq (tgt := 68) hx hb d_b_binWaiting_21 (by decide) (fun h2 => ?_) (fun h2 => ?_)
      · replace hF := (if_pos h2).symm.trans hF
        exact hw_vret hx hb hr hlk hW hS (by omega) (by omega) d_b_binWaiting_68 hF
      · replace hF := (if_neg h2).symm.trans hF
        refine lv_aload_n hx hb d_b_binWaiting_24 rfl (lv_at hl 0 rfl) ?_
        refine hw_get (k := 0) (i := 0) (n := 1) (j := 1) (v := .ref (L 11 0)) hx hb hts hown hK hW fl_b_19 rfl (by omega) rfl d_b_binWaiting_25 ?_
        refine hw_get (k := 11) (i := 0) (n := 1) (j := 0) (v := .ref (L 12 0)) hx hb hts hown hK hW fl_b_232 rfl (by omega) rfl d_b_binWaiting_28 ?_
        refine lv_iload_n hx hb d_b_binWaiting_31 rfl (lv_at hl 1 rfl) ?_
        obtain ⟨g3, hF⟩ := f_gd_some hF
        obtain ⟨g4, hF⟩ := f_gd_some hF
        have g4 := of_decide_eq_true g4
        refine hw_rald hx hb hK hW g3 d_b_binWaiting_32 ?_
        obtain ⟨v5, z5, hc5, hF⟩ := f_bd_some hF
        refine hw_VR (k := 13) (i := f_gR z (f_ix x1)) (nk := 16) (As := []) (rest := []) hx hb hml hown hts (c_co_rear_ok l hl0 hLi (f_gR z (f_ix x1)) (by omega) _ _ _ hc5) st_b_257 (by decide) rfl (by omega) rfl rfl hK hZ hsz hS hW rfl hl.1 (Nat.le_of_ble_eq_true rfl) d_b_binWaiting_33 (by omega) (by omega) (by omega) (by omega) (fun H locs hW hS => ?_)
        refine lv_bipush (v := 110) hx hb d_b_binWaiting_36 (by decide) ?_
        refine lv_icmp_lt (tgt := 45) hx hb d_b_binWaiting_38 (by decide) (fun h6 => ?_) (fun h6 => ?_)
        · replace hF := (if_pos h6).symm.trans hF
          refine lv_iconst (v := 0) hx hb d_b_binWaiting_45 (by decide) ?_
          exact B46 k10 K10 x1 x2 0 z5 hF _ _ _ _ _ hW hS (lv_sub hl [0, 1, 2] rfl) (by omega) (by omega)
        · replace hF := (if_neg h6).symm.trans hF
          refine lv_iconst (v := 1) hx hb d_b_binWaiting_41 (by decide) ?_
          refine lv_goto (tgt := 46) hx hb d_b_binWaiting_42 (by decide) ?_
          exact B46 k10 K10 x1 x2 1 z5 hF _ _ _ _ _ hW hS (lv_sub hl [0, 1, 2] rfl) (by omega) (by omega)
  intro H locs ls cells slots hW hS hl hc hs
  have hl : lv_has ls 4 [(0, .ref (L 0 0))] := hl
  unfold F_b_binWaiting at hF
  refine lv_iconst (v := 0) hx hb d_b_binWaiting_0 (by decide) ?_
  refine lv_istore_n (lv' := [(1, .int 0), (0, .ref (L 0 0))]) hx hb d_b_binWaiting_1 rfl hl (by decide) rfl (fun ls hl => ?_)
  refine lv_aload_n hx hb d_b_binWaiting_2 rfl (lv_at hl 1 rfl) ?_
  refine hw_get (k := 0) (i := 0) (n := 1) (j := 1) (v := .ref (L 11 0)) hx hb hts hown hK hW fl_b_19 rfl (by omega) rfl d_b_binWaiting_3 ?_
  refine hw_get (k := 11) (i := 0) (n := 1) (j := 1) (v := .int (f_gI z 11 0 1)) hx hb hts hown hK hW fl_b_127 rfl (by omega) rfl d_b_binWaiting_6 ?_
  refine lv_istore_n (lv' := [(2, .int (f_gI z 11 0 1)), (1, .int 0), (0, .ref (L 0 0))]) hx hb d_b_binWaiting_9 rfl hl (by decide) rfl (fun ls hl => ?_)
  exact B10 2000 0 (f_gI z 11 0 1) z hF _ _ _ _ _ hW hS (lv_sub hl [2, 1, 0] rfl) (by omega) (by omega)
set_option maxRecDepth 100000 in
set_option maxHeartbeats 4000000 in
theorem c_b_power_ok (l : Launch) (hl0 : l.stackTraces = false) {L : Nat → Nat → Nat} {Ar : Nat → ClassId} {D : va_G} {b0 : Nat} (hLi : f_L L b0)   (z : fST) (r : Int32) (z' : fST) (hF : F_b_power  z = some (r, z')) : f_C l y_b_power wt 4 0 L Ar D b0 [.ref (L 0 0)] z (.inl (some (.int r))) z' := by
  refine f_ofW (cc := c_b_power) (maxL := 2) (ret := (some FieldType.int)) (by decide) w_b_power (Nat.le_of_ble_eq_true rfl) ?_
  intro p e s m args below meth c R hRf hRl hRc hRs hx hb hr hlk hml hno hts hown hK hZ hsz
  intro H locs ls cells slots hW hS hl hc hs
  have hl : lv_has ls 2 [(0, .ref (L 0 0))] := hl
  unfold F_b_power at hF
  refine lv_aload_n hx hb d_b_power_0 rfl (lv_at hl 0 rfl) ?_
  refine hw_get (k := 0) (i := 0) (n := 1) (j := 4) (v := .ref (L 23 0)) hx hb hts hown hK hW fl_b_40 rfl (by omega) rfl d_b_power_1 ?_
  refine hw_get (k := 23) (i := 0) (n := 1) (j := 2) (v := .int (f_gI z 23 0 2)) hx hb hts hown hK hW fl_b_116 rfl (by omega) rfl d_b_power_4 ?_
  refine lv_if_eq (tgt := 12) hx hb d_b_power_7 (by decide) (fun h1 => ?_) (fun h1 => ?_)
  · replace hF := (if_pos h1).symm.trans hF
    refine lv_aload_n hx hb d_b_power_12 rfl (lv_at hl 0 rfl) ?_
    refine hw_get (k := 0) (i := 0) (n := 1) (j := 4) (v := .ref (L 23 0)) hx hb hts hown hK hW fl_b_40 rfl (by omega) rfl d_b_power_13 ?_
    refine hw_get (k := 23) (i := 0) (n := 1) (j := 0) (v := .int (f_gI z 23 0 0)) hx hb hts hown hK hW fl_b_176 rfl (by omega) rfl d_b_power_16 ?_
    refine lv_istore_n (lv' := [(1, .int (f_gI z 23 0 0)), (0, .ref (L 0 0))]) hx hb d_b_power_19 rfl hl (by decide) rfl (fun ls hl => ?_)
    refine lv_aload_n hx hb d_b_power_20 rfl (lv_at hl 1 rfl) ?_
    refine hw_get (k := 0) (i := 0) (n := 1) (j := 4) (v := .ref (L 23 0)) hx hb hts hown hK hW fl_b_40 rfl (by omega) rfl d_b_power_21 ?_
    refine lv_iconst (v := 1) hx hb d_b_power_24 (by decide) ?_
    refine hw_put (k := 23) (i := 0) (n := 1) (j := 2) (v := 1) hx hb hts hown hK hLi hW hS fp_b_116 (f_nZ (Or.inr rfl)) (f_fZ _ (Or.inr rfl)) rfl (by omega) d_b_power_25 (fun H locs hW hS => ?_)
    refine lv_aload_n hx hb d_b_power_28 rfl (lv_at hl 1 rfl) ?_
    refine hw_get (k := 0) (i := 0) (n := 1) (j := 1) (v := .ref (L 11 0)) hx hb hts hown hK hW fl_b_19 rfl (by omega) rfl d_b_power_29 ?_
    refine lv_bipush (v := 105) hx hb d_b_power_32 (by decide) ?_
    obtain ⟨v2, z2, hc2, hF⟩ := f_bd_some hF
    refine hw_VR (k := 11) (i := 0) (nk := 1) (As := [.int 105]) (rest := []) hx hb hml hown hts (c_be_forgetBefore_ok l hl0 hLi 105  _ _ _ hc2) st_b_179 (by decide) rfl (by omega) rfl rfl hK hZ hsz hS hW rfl hl.1 (Nat.le_of_ble_eq_true rfl) d_b_power_34 (by omega) (by omega) (by omega) (by omega) (fun H locs hW hS => ?_)
    refine lv_aload_n hx hb d_b_power_37 rfl (lv_at hl 1 rfl) ?_
    obtain ⟨v3, z3, hc3, hF⟩ := f_bd_some hF
    refine hw_VR (k := 0) (i := 0) (nk := 1) (As := []) (rest := []) hx hb hml hown hts (c_b_payUnpaid_ok l hl0 hLi   _ _ _ hc3) st_b_182 (by decide) rfl (by omega) rfl rfl hK hZ hsz hS hW rfl hl.1 (Nat.le_of_ble_eq_true rfl) d_b_power_38 (by omega) (by omega) (by omega) (by omega) (fun H locs hW hS => ?_)
    refine lv_aload_n hx hb d_b_power_41 rfl (lv_at hl 1 rfl) ?_
    obtain ⟨v4, z4, hc4, hF⟩ := f_bd_some hF
    refine hw_VR (k := 0) (i := 0) (nk := 1) (As := []) (rest := []) hx hb hml hown hts (c_b_binWaiting_ok l hl0 hLi   _ _ _ hc4) st_b_185 (by decide) rfl (by omega) rfl rfl hK hZ hsz hS hW rfl hl.1 (Nat.le_of_ble_eq_true rfl) d_b_power_42 (by omega) (by omega) (by omega) (by omega) (fun H locs hW hS => ?_)
    refine lv_aload_n hx hb d_b_power_45 rfl (lv_at hl 1 rfl) ?_
    refine hw_get (k := 0) (i := 0) (n := 1) (j := 4) (v := .ref (L 23 0)) hx hb hts hown hK hW fl_b_40 rfl (by omega) rfl d_b_power_46 ?_
    refine hw_get (k := 23) (i := 0) (n := 1) (j := 0) (v := .int (f_gI z4 23 0 0)) hx hb hts hown hK hW fl_b_176 rfl (by omega) rfl d_b_power_49 ?_
    refine lv_iload_n hx hb d_b_power_52 rfl (lv_at hl 0 rfl) ?_
    refine lv_isub hx hb d_b_power_53 ?_
    exact hw_iret hx hb hr hlk (vp_nar_int _) hW hS (by omega) (by omega) d_b_power_54 hF
  · replace hF := (if_neg h1).symm.trans hF
    refine lv_iconst (v := (-1)) hx hb d_b_power_10 (by decide) ?_
    exact hw_iret hx hb hr hlk (vp_nar_int _) hW hS (by omega) (by omega) d_b_power_11 hF
set_option maxRecDepth 100000 in
set_option maxHeartbeats 4000000 in
theorem c_b_check_ok (l : Launch) (hl0 : l.stackTraces = false) {L : Nat → Nat → Nat} {Ar : Nat → ClassId} {D : va_G} {b0 : Nat} (hLi : f_L L b0) (a1 : Int32) (a2 : Int32)  (z : fST) (r : Int32 ⊕ Nat) (z' : fST) (hF : F_b_check a1 a2 z = some (r, z')) : f_C l y_b_check wt 8 2 L Ar D b0 [.ref (L 0 0), .int a1, .int a2] z (f_oi r) z' := by
  refine f_ofW (cc := c_b_check) (maxL := 5) (ret := (some FieldType.boolean)) (by decide) w_b_check (Nat.le_of_ble_eq_true rfl) ?_
  intro p e s m args below meth c R hRf hRl hRc hRs hx hb hr hlk hml hno hts hown hK hZ hsz
  intro H locs ls cells slots hW hS hl hc hs
  have hl : lv_has ls 5 [(0, .ref (L 0 0)), (1, .int a1), (2, .int a2)] := hl
  unfold F_b_check at hF
  refine lv_iload_n hx hb d_b_check_0 rfl (lv_at hl 1 rfl) ?_
  refine lv_iconst (v := 0) hx hb d_b_check_1 (by decide) ?_
  refine lv_ldc (v := 99999999) hx hb hown (hts _ (wt_in (List.mem_of_getElem? (i := 662) (by decide +kernel)) rfl)) d_b_check_2 ?_
  obtain ⟨v1, z1, hc1, hF⟩ := f_bd_some hF
  refine hw_SR (As := [.int a1, .int 0, .int 99999999]) (rest := []) hx hb hml hown hts (c_b_isWithin_ok l hl0 hLi a1 0 99999999  _ _ _ hc1) st_b_66 hK hZ hsz hS hW rfl hl.1 (Nat.le_of_ble_eq_true rfl) d_b_check_4 (by omega) (by omega) (by omega) (by omega) (fun H locs hW hS => ?_)
  rcases f_bx_some hF with ⟨v2, z2, hc2, hF⟩ | ⟨v2, z2, hc2, hF⟩
  · skip
    refine hw_SR (As := [.int v1]) (rest := []) hx hb hml hown hts (c_b_require_ok l hl0 hLi v1  _ _ _ hc2) st_b_62 hK hZ hsz hS hW rfl hl.1 (Nat.le_of_ble_eq_true rfl) d_b_check_7 (by omega) (by omega) (by omega) (by omega) (fun H locs hW hS => ?_)
    refine lv_iload_n hx hb d_b_check_10 rfl (lv_at hl 2 rfl) ?_
    refine lv_iconst (v := 0) hx hb d_b_check_11 (by decide) ?_
    refine lv_ldc (v := 99999999) hx hb hown (hts _ (wt_in (List.mem_of_getElem? (i := 662) (by decide +kernel)) rfl)) d_b_check_12 ?_
    obtain ⟨v3, z3, hc3, hF⟩ := f_bd_some hF
    refine hw_SR (As := [.int a2, .int 0, .int 99999999]) (rest := []) hx hb hml hown hts (c_b_isWithin_ok l hl0 hLi a2 0 99999999  _ _ _ hc3) st_b_66 hK hZ hsz hS hW rfl hl.1 (Nat.le_of_ble_eq_true rfl) d_b_check_14 (by omega) (by omega) (by omega) (by omega) (fun H locs hW hS => ?_)
    rcases f_bx_some hF with ⟨v4, z4, hc4, hF⟩ | ⟨v4, z4, hc4, hF⟩
    · skip
      refine hw_SR (As := [.int v3]) (rest := []) hx hb hml hown hts (c_b_require_ok l hl0 hLi v3  _ _ _ hc4) st_b_62 hK hZ hsz hS hW rfl hl.1 (Nat.le_of_ble_eq_true rfl) d_b_check_17 (by omega) (by omega) (by omega) (by omega) (fun H locs hW hS => ?_)
      refine lv_iload_n hx hb d_b_check_20 rfl (lv_at hl 1 rfl) ?_
      refine lv_i2l hx hb d_b_check_21 rfl ?_
      refine lv_ldc2 (v := 100000000) hx hb hown (hts _ (wt_in (List.mem_of_getElem? (i := 663) (by decide +kernel)) rfl)) d_b_check_22 ?_
      refine lv_lmul hx hb d_b_check_25 ?_
      refine lv_iload_n hx hb d_b_check_26 rfl (lv_at hl 2 rfl) ?_
      refine lv_i2l hx hb d_b_check_27 rfl ?_
      refine lv_ladd hx hb d_b_check_28 ?_
      refine lv_lstore_n (lv' := [(3, .long ((a1.toInt64 * 100000000) + a2.toInt64)), (0, .ref (L 0 0)), (1, .int a1), (2, .int a2)]) hx hb d_b_check_29 rfl hl (by decide) rfl (fun ls hl => ?_)
      refine lv_iload_n hx hb d_b_check_30 rfl (lv_at hl 3 rfl) ?_
      refine lv_bipush (v := 100) hx hb d_b_check_31 (by decide) ?_
      refine lv_idiv hx hb d_b_check_33 (by decide) ?_
      refine lv_bipush (v := 100) hx hb d_b_check_34 (by decide) ?_
      refine lv_irem hx hb d_b_check_36 (by decide) ?_
      refine lv_bipush (v := 37) hx hb d_b_check_37 (by decide) ?_
      refine lv_icmp_ne (tgt := 56) hx hb d_b_check_39 (by decide) (fun h5 => ?_) (fun h5 => ?_)
      · replace hF := (if_neg h5).symm.trans hF
        refine lv_iconst (v := 0) hx hb d_b_check_56 (by decide) ?_
        exact hw_iretX hx hb hr hlk (f_nZ (Or.inl rfl)) hW hS (by omega) (by omega) d_b_check_57 hF
      · replace hF := (if_pos h5).symm.trans hF
        refine lv_lload_n hx hb d_b_check_42 rfl (lv_at hl 0 rfl) ?_
        refine lv_ldc2 (v := 97) hx hb hown (hts _ (wt_in (List.mem_of_getElem? (i := 664) (by decide +kernel)) rfl)) d_b_check_43 ?_
        refine lv_lrem hx hb d_b_check_46 (by decide) ?_
        refine lv_lconst (v := 1) hx hb d_b_check_47 (by decide) ?_
        refine W.lcmp hx hb d_b_check_48 ?_
        refine lv_if_ne (tgt := 56) hx hb d_b_check_49 (by decide) (fun h6 => ?_) (fun h6 => ?_)
        · replace hF := (if_neg h6).symm.trans hF
          refine lv_iconst (v := 0) hx hb d_b_check_56 (by decide) ?_
          exact hw_iretX hx hb hr hlk (f_nZ (Or.inl rfl)) hW hS (by omega) (by omega) d_b_check_57 hF
        · replace hF := (if_pos h6).symm.trans hF
          refine lv_iconst (v := 1) hx hb d_b_check_52 (by decide) ?_
          refine lv_goto (tgt := 57) hx hb d_b_check_53 (by decide) ?_
          exact hw_iretX hx hb hr hlk (f_nZ (Or.inr rfl)) hW hS (by omega) (by omega) d_b_check_57 hF
    · cases hF
      exact hw_SX (As := [.int v3]) (rest := []) hx hb hml hown hts (c_b_require_ok l hl0 hLi v3  _ _ _ hc4) st_b_62 hK hZ hsz hS hW rfl hl.1 (Nat.le_of_ble_eq_true rfl) d_b_check_17 (by omega) (by omega) (by omega) (by omega) (fun q ce H locs hW hS hq hv hcl => hw_out (fun x hx => (hno x hx).elim) hlk hW hS hq hv hcl (by omega) (by omega))
  · cases hF
    exact hw_SX (As := [.int v1]) (rest := []) hx hb hml hown hts (c_b_require_ok l hl0 hLi v1  _ _ _ hc2) st_b_62 hK hZ hsz hS hW rfl hl.1 (Nat.le_of_ble_eq_true rfl) d_b_check_7 (by omega) (by omega) (by omega) (by omega) (fun q ce H locs hW hS hq hv hcl => hw_out (fun x hx => (hno x hx).elim) hlk hW hS hq hv hcl (by omega) (by omega))
set_option maxRecDepth 100000 in
set_option maxHeartbeats 4000000 in
theorem c_vo_firstDigits_ok (l : Launch) (hl0 : l.stackTraces = false) {L : Nat → Nat → Nat} {Ar : Nat → ClassId} {D : va_G} {b0 : Nat} (hLi : f_L L b0) (a1 : Int32)  (z : fST) (r : Int32) (z' : fST) (hF : F_vo_firstDigits a1 z = some (r, z')) : f_C l y_vo_firstDigits wt 1 0 L Ar D b0 [.ref (L 19 0), .int a1] z (.inl (some (.int r))) z' := by
  refine f_ofW (cc := c_vo_firstDigits) (maxL := 2) (ret := (some FieldType.int)) (by decide) w_vo_firstDigits (Nat.le_of_ble_eq_true rfl) ?_
  intro p e s m args below meth c R hRf hRl hRc hRs hx hb hr hlk hml hno hts hown hK hZ hsz
  intro H locs ls cells slots hW hS hl hc hs
  have hl : lv_has ls 2 [(0, .ref (L 19 0)), (1, .int a1)] := hl
  unfold F_vo_firstDigits at hF
  refine lv_aload_n hx hb d_vo_firstDigits_0 rfl (lv_at hl 0 rfl) ?_
  refine hw_get (k := 19) (i := 0) (n := 1) (j := 0) (v := .ref (L 20 0)) hx hb hts hown hK hW fl_vo_9 rfl (by omega) rfl d_vo_firstDigits_1 ?_
  refine lv_iload_n hx hb d_vo_firstDigits_4 rfl (lv_at hl 1 rfl) ?_
  obtain ⟨g1, hF⟩ := f_gd_some hF
  refine hw_iald (k := 20) (i := 0) (n := 1) hx hb hK hW (by decide) rfl (by omega) rfl g1 d_vo_firstDigits_5 ?_
  refine lv_bipush (v := 100) hx hb d_vo_firstDigits_6 (by decide) ?_
  refine lv_imul hx hb d_vo_firstDigits_8 ?_
  refine lv_aload_n hx hb d_vo_firstDigits_9 rfl (lv_at hl 0 rfl) ?_
  refine hw_get (k := 19) (i := 0) (n := 1) (j := 1) (v := .ref (L 21 0)) hx hb hts hown hK hW fl_vo_15 rfl (by omega) rfl d_vo_firstDigits_10 ?_
  refine lv_iload_n hx hb d_vo_firstDigits_13 rfl (lv_at hl 1 rfl) ?_
  obtain ⟨g2, hF⟩ := f_gd_some hF
  refine hw_iald (k := 21) (i := 0) (n := 1) hx hb hK hW (by decide) rfl (by omega) rfl g2 d_vo_firstDigits_14 ?_
  refine lv_sipush (v := 10000) hx hb d_vo_firstDigits_15 (by decide) ?_
  refine lv_idiv hx hb d_vo_firstDigits_18 (by decide) ?_
  refine lv_iadd hx hb d_vo_firstDigits_19 ?_
  exact hw_iret hx hb hr hlk (vp_nar_int _) hW hS (by omega) (by omega) d_vo_firstDigits_20 hF
set_option maxRecDepth 100000 in
set_option maxHeartbeats 4000000 in
theorem c_vo_lastDigits_ok (l : Launch) (hl0 : l.stackTraces = false) {L : Nat → Nat → Nat} {Ar : Nat → ClassId} {D : va_G} {b0 : Nat} (hLi : f_L L b0) (a1 : Int32)  (z : fST) (r : Int32) (z' : fST) (hF : F_vo_lastDigits a1 z = some (r, z')) : f_C l y_vo_lastDigits wt 2 0 L Ar D b0 [.ref (L 19 0), .int a1] z (.inl (some (.int r))) z' := by
  refine f_ofW (cc := c_vo_lastDigits) (maxL := 5) (ret := (some FieldType.int)) (by decide) w_vo_lastDigits (Nat.le_of_ble_eq_true rfl) ?_
  intro p e s m args below meth c R hRf hRl hRc hRs hx hb hr hlk hml hno hts hown hK hZ hsz
  intro H locs ls cells slots hW hS hl hc hs
  have hl : lv_has ls 5 [(0, .ref (L 19 0)), (1, .int a1)] := hl
  unfold F_vo_lastDigits at hF
  refine lv_aload_n hx hb d_vo_lastDigits_0 rfl (lv_at hl 0 rfl) ?_
  refine hw_get (k := 19) (i := 0) (n := 1) (j := 1) (v := .ref (L 21 0)) hx hb hts hown hK hW fl_vo_15 rfl (by omega) rfl d_vo_lastDigits_1 ?_
  refine lv_iload_n hx hb d_vo_lastDigits_4 rfl (lv_at hl 1 rfl) ?_
  obtain ⟨g1, hF⟩ := f_gd_some hF
  refine hw_iald (k := 21) (i := 0) (n := 1) hx hb hK hW (by decide) rfl (by omega) rfl g1 d_vo_lastDigits_5 ?_
  refine lv_sipush (v := 10000) hx hb d_vo_lastDigits_6 (by decide) ?_
  refine lv_irem hx hb d_vo_lastDigits_9 (by decide) ?_
  refine lv_sipush (v := 10000) hx hb d_vo_lastDigits_10 (by decide) ?_
  refine lv_imul hx hb d_vo_lastDigits_13 ?_
  refine lv_sipush (v := 3700) hx hb d_vo_lastDigits_14 (by decide) ?_
  refine lv_iadd hx hb d_vo_lastDigits_17 ?_
  refine lv_istore_n (lv' := [(2, .int ((((f_gI z 21 0 (f_ix a1)) - (f_gI z 21 0 (f_ix a1)) / 10000 * 10000) * 10000) + 3700)), (0, .ref (L 19 0)), (1, .int a1)]) hx hb d_vo_lastDigits_18 rfl hl (by decide) rfl (fun ls hl => ?_)
  refine lv_aload_n hx hb d_vo_lastDigits_19 rfl (lv_at hl 1 rfl) ?_
  refine lv_iload_n hx hb d_vo_lastDigits_20 rfl (lv_at hl 2 rfl) ?_
  obtain ⟨v2, z2, hc2, hF⟩ := f_bd_some hF
  refine hw_VR (k := 19) (i := 0) (nk := 1) (As := [.int a1]) (rest := []) hx hb hml hown hts (c_vo_firstDigits_ok l hl0 hLi a1  _ _ _ hc2) st_vo_36 (by decide) rfl (by omega) rfl rfl hK hZ hsz hS hW rfl hl.1 (Nat.le_of_ble_eq_true rfl) d_vo_lastDigits_21 (by omega) (by omega) (by omega) (by omega) (fun H locs hW hS => ?_)
  refine lv_i2l hx hb d_vo_lastDigits_24 rfl ?_
  refine lv_ldc2 (v := 100000000) hx hb hown (hts _ (wt_in (List.mem_of_getElem? (i := 681) (by decide +kernel)) rfl)) d_vo_lastDigits_25 ?_
  refine lv_lmul hx hb d_vo_lastDigits_28 ?_
  refine lv_iload_n hx hb d_vo_lastDigits_29 rfl (lv_at hl 0 rfl) ?_
  refine lv_i2l hx hb d_vo_lastDigits_30 rfl ?_
  refine lv_ladd hx hb d_vo_lastDigits_31 ?_
  refine lv_lstore_n (lv' := [(3, .long ((v2.toInt64 * 100000000) + (((((f_gI z 21 0 (f_ix a1)) - (f_gI z 21 0 (f_ix a1)) / 10000 * 10000) * 10000) + 3700).toInt64))), (2, .int ((((f_gI z 21 0 (f_ix a1)) - (f_gI z 21 0 (f_ix a1)) / 10000 * 10000) * 10000) + 3700)), (0, .ref (L 19 0)), (1, .int a1)]) hx hb d_vo_lastDigits_32 rfl hl (by decide) rfl (fun ls hl => ?_)
  refine lv_iload_n hx hb d_vo_lastDigits_33 rfl (lv_at hl 1 rfl) ?_
  refine lv_bipush (v := 97) hx hb d_vo_lastDigits_34 (by decide) ?_
  refine lv_iadd hx hb d_vo_lastDigits_36 ?_
  refine lv_iconst (v := 1) hx hb d_vo_lastDigits_37 (by decide) ?_
  refine lv_iadd hx hb d_vo_lastDigits_38 ?_
  refine lv_lload_n hx hb d_vo_lastDigits_39 rfl (lv_at hl 0 rfl) ?_
  refine lv_ldc2 (v := 97) hx hb hown (hts _ (wt_in (List.mem_of_getElem? (i := 682) (by decide +kernel)) rfl)) d_vo_lastDigits_40 ?_
  refine lv_lrem hx hb d_vo_lastDigits_43 (by decide) ?_
  refine lv_l2i hx hb d_vo_lastDigits_44 rfl ?_
  refine lv_isub hx hb d_vo_lastDigits_45 ?_
  exact hw_iret hx hb hr hlk (vp_nar_int _) hW hS (by omega) (by omega) d_vo_lastDigits_46 hF
set_option maxRecDepth 100000 in
set_option maxHeartbeats 4000000 in
theorem c_b_asNumber_ok (l : Launch) (hl0 : l.stackTraces = false) {L : Nat → Nat → Nat} {Ar : Nat → ClassId} {D : va_G} {b0 : Nat} (hLi : f_L L b0) (a0 : Int32)  (z : fST) (r : Int32) (z' : fST) (hF : F_b_asNumber a0 z = some (r, z')) : f_C l y_b_asNumber wt 1 0 L Ar D b0 [.int a0] z (.inl (some (.int r))) z' := by
  refine f_ofW (cc := c_b_asNumber) (maxL := 1) (ret := (some FieldType.int)) (by decide) w_b_asNumber (Nat.le_of_ble_eq_true rfl) ?_
  intro p e s m args below meth c R hRf hRl hRc hRs hx hb hr hlk hml hno hts hown hK hZ hsz
  intro H locs ls cells slots hW hS hl hc hs
  have hl : lv_has ls 1 [(0, .int a0)] := hl
  unfold F_b_asNumber at hF
  refine lv_iload_n hx hb d_b_asNumber_0 rfl (lv_at hl 0 rfl) ?_
  refine lv_if_eq (tgt := 8) hx hb d_b_asNumber_1 (by decide) (fun h1 => ?_) (fun h1 => ?_)
  · replace hF := (if_pos h1).symm.trans hF
    refine lv_iconst (v := 0) hx hb d_b_asNumber_8 (by decide) ?_
    exact hw_iret hx hb hr hlk (vp_nar_int _) hW hS (by omega) (by omega) d_b_asNumber_9 hF
  · replace hF := (if_neg h1).symm.trans hF
    refine lv_iconst (v := 1) hx hb d_b_asNumber_4 (by decide) ?_
    refine lv_goto (tgt := 9) hx hb d_b_asNumber_5 (by decide) ?_
    exact hw_iret hx hb hr hlk (vp_nar_int _) hW hS (by omega) (by omega) d_b_asNumber_9 hF
