/-! contracts: the method does what its pure function says -/
set_option maxRecDepth 100000 in
set_option maxHeartbeats 4000000 in
theorem c_m_enter_ok (l : Launch) (hl0 : l.stackTraces = false) {L : Nat → Nat → Nat} {Ar : Nat → ClassId} {D : va_G} {b0 : Nat} (hLi : f_L L b0) (a1 : Int32)  (z : fST) (r : Int32) (z' : fST) (hF : F_m_enter a1 z = some (r, z')) : f_C l y_m_enter wt 3 0 L Ar D b0 [.ref (L 30 0), .int a1] z (.inl (some (.int r))) z' := by
  refine f_ofW (cc := c_m_enter) (maxL := 3) (ret := (some FieldType.int)) (by decide) w_m_enter (Nat.le_of_ble_eq_true rfl) ?_
  intro p e s m args below meth c R hRf hRl hRc hRs hx hb hr hlk hml hno hts hown hK hZ hsz
  have B72 : ∀  (n : Nat) (x1 : Int32) (x2 : Int32) (z : fST), f_it (b_m_enter_72 ) n (x1, x2, z) = some (r, z') →  f_B p l e R s m args below meth c L Ar D b0 3 0 (f_E below args s L Ar D b0 0 (.inl (some (.int r))) z') 0 72 [(0, .ref (L 30 0)), (1, .int x1), (2, .int x2)] [] z := by
    intro  n
    induction n with
    | zero => intro x1 x2 z hF; cases hF
    | succ n ih =>
    intro x1 x2 z hF  H locs ls cells slots hW hS hl hc hs
    replace hF := f_it_s hF
    have K72 : ∀ (x1 : Int32) (x2 : Int32) (z : fST), f_it (b_m_enter_72 ) n (x1, x2, z) = some (r, z') →  f_B p l e R s m args below meth c L Ar D b0 3 0 (f_E below args s L Ar D b0 0 (.inl (some (.int r))) z') 0 72 [(0, .ref (L 30 0)), (1, .int x1), (2, .int x2)] [] z := fun x1 x2 z hF => ih x1 x2 z hF
    generalize f_it (b_m_enter_72 ) n = k72 at hF K72
    unfold b_m_enter_72 at hF
    dsimp only at hF
    refine lv_iload_n hx hb d_m_enter_72 rfl (lv_at hl 2 rfl) ?_
    refine lv_bipush (v := 20) hx hb d_m_enter_73 (by decide) ?_
    refine lv_icmp_ge (tgt := 94) hx hb d_m_enter_75 (by decide) (fun h10 => ?_) (fun h10 => ?_)
    · replace hF := (if_pos h10).symm.trans hF
      refine lv_aload_n hx hb d_m_enter_94 rfl (lv_at hl 0 rfl) ?_
      refine lv_aload_n hx hb d_m_enter_95 rfl (lv_at hl 0 rfl) ?_
      refine hw_get (k := 30) (i := 0) (n := 1) (j := 4) (v := .int (f_gI z 30 0 4)) hx hb hts hown hK hW fl_m_52 rfl (by omega) rfl d_m_enter_96 ?_
      refine lv_iconst (v := 0) hx hb d_m_enter_99 (by decide) ?_
      refine lv_aload_n hx hb d_m_enter_100 rfl (lv_at hl 0 rfl) ?_
      refine hw_get (k := 30) (i := 0) (n := 1) (j := 5) (v := .int (f_gI z 30 0 5)) hx hb hts hown hK hW fl_m_75 rfl (by omega) rfl d_m_enter_101 ?_
      obtain ⟨v11, z11, hc11, hF⟩ := f_bd_some hF
      refine hw_VR (k := 30) (i := 0) (nk := 1) (As := [.int (f_gI z 30 0 4), .int 0, .int (f_gI z 30 0 5)]) (rest := []) hx hb hml hown hts (c_m_put_ok l hl0 hLi (f_gI z 30 0 4) 0 (f_gI z 30 0 5)  _ _ _ hc11) st_m_78 (by decide) rfl (by omega) rfl rfl hK hZ hsz hS hW rfl hl.1 (Nat.le_of_ble_eq_true rfl) d_m_enter_104 (by omega) (by omega) (by omega) (by omega) (fun H locs hW hS => ?_)
      refine lv_aload_n hx hb d_m_enter_107 rfl (lv_at hl 0 rfl) ?_
      refine lv_aload_n hx hb d_m_enter_108 rfl (lv_at hl 0 rfl) ?_
      refine hw_get (k := 30) (i := 0) (n := 1) (j := 4) (v := .int (f_gI z11 30 0 4)) hx hb hts hown hK hW fl_m_52 rfl (by omega) rfl d_m_enter_109 ?_
      refine lv_iconst (v := 1) hx hb d_m_enter_112 (by decide) ?_
      refine lv_iload_n hx hb d_m_enter_113 rfl (lv_at hl 1 rfl) ?_
      obtain ⟨v12, z12, hc12, hF⟩ := f_bd_some hF
      refine hw_VR (k := 30) (i := 0) (nk := 1) (As := [.int (f_gI z11 30 0 4), .int 1, .int x1]) (rest := []) hx hb hml hown hts (c_m_put_ok l hl0 hLi (f_gI z11 30 0 4) 1 x1  _ _ _ hc12) st_m_78 (by decide) rfl (by omega) rfl rfl hK hZ hsz hS hW rfl hl.1 (Nat.le_of_ble_eq_true rfl) d_m_enter_114 (by omega) (by omega) (by omega) (by omega) (fun H locs hW hS => ?_)
      refine lv_aload_n hx hb d_m_enter_117 rfl (lv_at hl 0 rfl) ?_
      refine lv_aload_n hx hb d_m_enter_118 rfl (lv_at hl 0 rfl) ?_
      refine hw_get (k := 30) (i := 0) (n := 1) (j := 4) (v := .int (f_gI z12 30 0 4)) hx hb hts hown hK hW fl_m_52 rfl (by omega) rfl d_m_enter_119 ?_
      refine lv_iconst (v := 4) hx hb d_m_enter_122 (by decide) ?_
      refine lv_iconst (v := (-1)) hx hb d_m_enter_123 (by decide) ?_
      obtain ⟨v13, z13, hc13, hF⟩ := f_bd_some hF
      refine hw_VR (k := 30) (i := 0) (nk := 1) (As := [.int (f_gI z12 30 0 4), .int 4, .int ((-1))]) (rest := []) hx hb hml hown hts (c_m_put_ok l hl0 hLi (f_gI z12 30 0 4) 4 ((-1))  _ _ _ hc13) st_m_78 (by decide) rfl (by omega) rfl rfl hK hZ hsz hS hW rfl hl.1 (Nat.le_of_ble_eq_true rfl) d_m_enter_124 (by omega) (by omega) (by omega) (by omega) (fun H locs hW hS => ?_)
      refine lv_aload_n hx hb d_m_enter_127 rfl (lv_at hl 0 rfl) ?_
      refine lv_aload_n hx hb d_m_enter_128 rfl (lv_at hl 0 rfl) ?_
      refine hw_get (k := 30) (i := 0) (n := 1) (j := 4) (v := .int (f_gI z13 30 0 4)) hx hb hts hown hK hW fl_m_52 rfl (by omega) rfl d_m_enter_129 ?_
      refine lv_bipush (v := 6) hx hb d_m_enter_132 (by decide) ?_
      refine lv_iconst (v := (-1)) hx hb d_m_enter_134 (by decide) ?_
      obtain ⟨v14, z14, hc14, hF⟩ := f_bd_some hF
      refine hw_VR (k := 30) (i := 0) (nk := 1) (As := [.int (f_gI z13 30 0 4), .int 6, .int ((-1))]) (rest := []) hx hb hml hown hts (c_m_put_ok l hl0 hLi (f_gI z13 30 0 4) 6 ((-1))  _ _ _ hc14) st_m_78 (by decide) rfl (by omega) rfl rfl hK hZ hsz hS hW rfl hl.1 (Nat.le_of_ble_eq_true rfl) d_m_enter_135 (by omega) (by omega) (by omega) (by omega) (fun H locs hW hS => ?_)
      refine lv_aload_n hx hb d_m_enter_138 rfl (lv_at hl 0 rfl) ?_
      refine lv_dup hx hb d_m_enter_139 rfl ?_
      refine hw_get (k := 30) (i := 0) (n := 1) (j := 4) (v := .int (f_gI z14 30 0 4)) hx hb hts hown hK hW fl_m_52 rfl (by omega) rfl d_m_enter_140 ?_
      refine lv_iconst (v := 1) hx hb d_m_enter_143 (by decide) ?_
      refine lv_iadd hx hb d_m_enter_144 ?_
      refine hw_put (k := 30) (i := 0) (n := 1) (j := 4) (v := (f_gI z14 30 0 4) + 1) hx hb hts hown hK hLi hW hS fp_m_52 (vp_nar_int _) rfl rfl (by omega) d_m_enter_145 (fun H locs hW hS => ?_)
      refine lv_aload_n hx hb d_m_enter_148 rfl (lv_at hl 0 rfl) ?_
      refine hw_get (k := 30) (i := 0) (n := 1) (j := 5) (v := .int (f_gI (f_pI z14 30 0 4 ((f_gI z14 30 0 4) + 1)) 30 0 5)) hx hb hts hown hK hW fl_m_75 rfl (by omega) rfl d_m_enter_149 ?_
      exact hw_iret hx hb hr hlk (vp_nar_int _) hW hS (by omega) (by omega) d_m_enter_152 hF
    · replace hF := (if_neg h10).symm.trans hF
      refine lv_aload_n hx hb d_m_enter_78 rfl (lv_at hl 0 rfl) ?_
      refine lv_aload_n hx hb d_m_enter_79 rfl (lv_at hl 0 rfl) ?_
      refine hw_get (k := 30) (i := 0) (n := 1) (j := 4) (v := .int (f_gI z 30 0 4)) hx hb hts hown hK hW fl_m_52 rfl (by omega) rfl d_m_enter_80 ?_
      refine lv_iload_n hx hb d_m_enter_83 rfl (lv_at hl 2 rfl) ?_
      refine lv_iconst (v := 0) hx hb d_m_enter_84 (by decide) ?_
      obtain ⟨v15, z15, hc15, hF⟩ := f_bd_some hF
      refine hw_VR (k := 30) (i := 0) (nk := 1) (As := [.int (f_gI z 30 0 4), .int x2, .int 0]) (rest := []) hx hb hml hown hts (c_m_put_ok l hl0 hLi (f_gI z 30 0 4) x2 0  _ _ _ hc15) st_m_78 (by decide) rfl (by omega) rfl rfl hK hZ hsz hS hW rfl hl.1 (Nat.le_of_ble_eq_true rfl) d_m_enter_85 (by omega) (by omega) (by omega) (by omega) (fun H locs hW hS => ?_)
      refine lv_iinc (k := 2) (x := x2) (v := x2 + 1) (lv' := [(2, .int (x2 + 1)), (0, .ref (L 30 0)), (1, .int x1)]) hx hb d_m_enter_88 hl rfl rfl (by decide) rfl (fun ls hl => ?_)
      refine lv_goto (tgt := 72) hx hb d_m_enter_91 (by decide) ?_
      exact K72 x1 (x2 + 1) z15 hF _ _ _ _ _ hW hS (lv_sub hl [1, 2, 0] rfl) (by omega) (by omega)
  have B60 : ∀  (x1 : Int32) (z : fST), b_m_enter_60  x1 z = some (r, z') →  f_B p l e R s m args below meth c L Ar D b0 3 0 (f_E below args s L Ar D b0 0 (.inl (some (.int r))) z') 0 60 [(0, .ref (L 30 0)), (1, .int x1)] [] z := by
    intro  x1 z hF  H locs ls cells slots hW hS hl hc hs
    unfold b_m_enter_60 at hF
    refine lv_aload_n hx hb d_m_enter_60 rfl (lv_at hl 0 rfl) ?_
    refine lv_dup hx hb d_m_enter_61 rfl ?_
    refine hw_get (k := 30) (i := 0) (n := 1) (j := 5) (v := .int (f_gI z 30 0 5)) hx hb hts hown hK hW fl_m_75 rfl (by omega) rfl d_m_enter_62 ?_
    refine lv_iconst (v := 1) hx hb d_m_enter_65 (by decide) ?_
    refine lv_iadd hx hb d_m_enter_66 ?_
    refine hw_put (k := 30) (i := 0) (n := 1) (j := 5) (v := (f_gI z 30 0 5) + 1) hx hb hts hown hK hLi hW hS fp_m_75 (vp_nar_int _) rfl rfl (by omega) d_m_enter_67 (fun H locs hW hS => ?_)
    refine lv_iconst (v := 0) hx hb d_m_enter_70 (by decide) ?_
    refine lv_istore_n (lv' := [(2, .int 0), (0, .ref (L 30 0)), (1, .int x1)]) hx hb d_m_enter_71 rfl hl (by decide) rfl (fun ls hl => ?_)
    exact B72 2000 x1 0 (f_pI z 30 0 5 ((f_gI z 30 0 5) + 1)) hF _ _ _ _ _ hW hS (lv_sub hl [1, 2, 0] rfl) (by omega) (by omega)
  have B28 : ∀  (x1 : Int32) (y1 : Int32) (z : fST), b_m_enter_28  x1 y1 z = some (r, z') →  f_B p l e R s m args below meth c L Ar D b0 3 0 (f_E below args s L Ar D b0 0 (.inl (some (.int r))) z') 0 28 [(0, .ref (L 30 0)), (1, .int x1)] [.int y1, .ref (L 30 0)] z := by
    intro  x1 y1 z hF  H locs ls cells slots hW hS hl hc hs
    unfold b_m_enter_28 at hF
    refine lv_iconst (v := 2) hx hb d_m_enter_28 (by decide) ?_
    obtain ⟨v5, z5, hc5, hF⟩ := f_bd_some hF
    refine hw_VR (k := 30) (i := 0) (nk := 1) (As := [.int y1, .int 2]) (rest := []) hx hb hml hown hts (c_m_fails_ok l hl0 hLi y1 2  _ _ _ hc5) st_m_59 (by decide) rfl (by omega) rfl rfl hK hZ hsz hS hW rfl hl.1 (Nat.le_of_ble_eq_true rfl) d_m_enter_29 (by omega) (by omega) (by omega) (by omega) (fun H locs hW hS => ?_)
    refine lv_if_eq (tgt := 37) hx hb d_m_enter_32 (by decide) (fun h6 => ?_) (fun h6 => ?_)
    · replace hF := (if_pos h6).symm.trans hF
      refine lv_aload_n hx hb d_m_enter_37 rfl (lv_at hl 0 rfl) ?_
      refine hw_get (k := 30) (i := 0) (n := 1) (j := 4) (v := .int (f_gI z5 30 0 4)) hx hb hts hown hK hW fl_m_52 rfl (by omega) rfl d_m_enter_38 ?_
      refine lv_if_le (tgt := 60) hx hb d_m_enter_41 (by decide) (fun h7 => ?_) (fun h7 => ?_)
      · replace hF := (if_pos h7).symm.trans hF
        exact B60 x1 z5 hF _ _ _ _ _ hW hS (lv_sub hl [0, 1] rfl) (by omega) (by omega)
      · replace hF := (if_neg h7).symm.trans hF
        refine lv_aload_n hx hb d_m_enter_44 rfl (lv_at hl 0 rfl) ?_
        refine lv_aload_n hx hb d_m_enter_45 rfl (lv_at hl 0 rfl) ?_
        refine hw_get (k := 30) (i := 0) (n := 1) (j := 4) (v := .int (f_gI z5 30 0 4)) hx hb hts hown hK hW fl_m_52 rfl (by omega) rfl d_m_enter_46 ?_
        refine lv_iconst (v := 1) hx hb d_m_enter_49 (by decide) ?_
        refine lv_isub hx hb d_m_enter_50 ?_
        obtain ⟨v8, z8, hc8, hF⟩ := f_bd_some hF
        refine hw_VR (k := 30) (i := 0) (nk := 1) (As := [.int ((f_gI z5 30 0 4) - 1)]) (rest := []) hx hb hml hown hts (c_m_rear_ok l hl0 hLi ((f_gI z5 30 0 4) - 1)  _ _ _ hc8) st_m_72 (by decide) rfl (by omega) rfl rfl hK hZ hsz hS hW rfl hl.1 (Nat.le_of_ble_eq_true rfl) d_m_enter_51 (by omega) (by omega) (by omega) (by omega) (fun H locs hW hS => ?_)
        refine lv_iconst (v := 4) hx hb d_m_enter_54 (by decide) ?_
        refine lv_icmp_ge (tgt := 60) hx hb d_m_enter_55 (by decide) (fun h9 => ?_) (fun h9 => ?_)
        · replace hF := (if_pos h9).symm.trans hF
          exact B60 x1 z8 hF _ _ _ _ _ hW hS (lv_sub hl [0, 1] rfl) (by omega) (by omega)
        · replace hF := (if_neg h9).symm.trans hF
          refine lv_iconst (v := 0) hx hb d_m_enter_58 (by decide) ?_
          exact hw_iret hx hb hr hlk (vp_nar_int _) hW hS (by omega) (by omega) d_m_enter_59 hF
    · replace hF := (if_neg h6).symm.trans hF
      refine lv_iconst (v := 0) hx hb d_m_enter_35 (by decide) ?_
      exact hw_iret hx hb hr hlk (vp_nar_int _) hW hS (by omega) (by omega) d_m_enter_36 hF
  intro H locs ls cells slots hW hS hl hc hs
  have hl : lv_has ls 3 [(0, .ref (L 30 0)), (1, .int a1)] := hl
  unfold F_m_enter at hF
  refine lv_aload_n hx hb d_m_enter_0 rfl (lv_at hl 0 rfl) ?_
  refine lv_aload_n hx hb d_m_enter_1 rfl (lv_at hl 0 rfl) ?_
  refine hw_get (k := 30) (i := 0) (n := 1) (j := 17) (v := .int (f_gI z 30 0 17)) hx hb hts hown hK hW fl_m_55 rfl (by omega) rfl d_m_enter_2 ?_
  refine lv_iconst (v := 1) hx hb d_m_enter_5 (by decide) ?_
  obtain ⟨v1, z1, hc1, hF⟩ := f_bd_some hF
  refine hw_VR (k := 30) (i := 0) (nk := 1) (As := [.int (f_gI z 30 0 17), .int 1]) (rest := []) hx hb hml hown hts (c_m_fails_ok l hl0 hLi (f_gI z 30 0 17) 1  _ _ _ hc1) st_m_59 (by decide) rfl (by omega) rfl rfl hK hZ hsz hS hW rfl hl.1 (Nat.le_of_ble_eq_true rfl) d_m_enter_6 (by omega) (by omega) (by omega) (by omega) (fun H locs hW hS => ?_)
  refine lv_if_ne (tgt := 35) hx hb d_m_enter_9 (by decide) (fun h2 => ?_) (fun h2 => ?_)
  · replace hF := (if_neg h2).symm.trans hF
    refine lv_iconst (v := 0) hx hb d_m_enter_35 (by decide) ?_
    exact hw_iret hx hb hr hlk (vp_nar_int _) hW hS (by omega) (by omega) d_m_enter_36 hF
  · replace hF := (if_pos h2).symm.trans hF
    refine lv_aload_n hx hb d_m_enter_12 rfl (lv_at hl 0 rfl) ?_
    refine lv_iload_n hx hb d_m_enter_13 rfl (lv_at hl 1 rfl) ?_
    refine lv_iconst (v := 5) hx hb d_m_enter_14 (by decide) ?_
    refine lv_bipush (v := 40) hx hb d_m_enter_15 (by decide) ?_
    obtain ⟨v3, z3, hc3, hF⟩ := f_bd_some hF
    refine hw_SR (As := [.int a1, .int 5, .int 40]) (rest := [.ref (L 30 0)]) hx hb hml hown hts (c_m_within_ok l hl0 hLi a1 5 40  _ _ _ hc3) st_m_63 hK hZ hsz hS hW rfl hl.1 (Nat.le_of_ble_eq_true rfl) d_m_enter_17 (by omega) (by omega) (by omega) (by omega) (fun H locs hW hS => ?_)
    refine lv_if_ne (tgt := 27) hx hb d_m_enter_20 (by decide) (fun h4 => ?_) (fun h4 => ?_)
    · replace hF := (if_neg h4).symm.trans hF
      refine lv_iconst (v := 0) hx hb d_m_enter_27 (by decide) ?_
      exact B28 a1 0 z3 hF _ _ _ _ _ hW hS (lv_sub hl [0, 1] rfl) (by omega) (by omega)
    · replace hF := (if_pos h4).symm.trans hF
      refine lv_iconst (v := 1) hx hb d_m_enter_23 (by decide) ?_
      refine lv_goto (tgt := 28) hx hb d_m_enter_24 (by decide) ?_
      exact B28 a1 1 z3 hF _ _ _ _ _ hW hS (lv_sub hl [0, 1] rfl) (by omega) (by omega)
set_option maxRecDepth 100000 in
set_option maxHeartbeats 4000000 in
theorem c_m_over_ok (l : Launch) (hl0 : l.stackTraces = false) {L : Nat → Nat → Nat} {Ar : Nat → ClassId} {D : va_G} {b0 : Nat} (hLi : f_L L b0) (a1 : Int32)  (z : fST) (r : Int32) (z' : fST) (hF : F_m_over a1 z = some (r, z')) : f_C l y_m_over wt 3 0 L Ar D b0 [.ref (L 30 0), .int a1] z (.inl (some (.int r))) z' := by
  refine f_ofW (cc := c_m_over) (maxL := 3) (ret := (some FieldType.int)) (by decide) w_m_over (Nat.le_of_ble_eq_true rfl) ?_
  intro p e s m args below meth c R hRf hRl hRc hRs hx hb hr hlk hml hno hts hown hK hZ hsz
  have B31 : ∀ (k2 : Int32 × Int32 × fST → Option (Int32 × fST)) (K2 : ∀ (x1 : Int32) (x2 : Int32) (z : fST), k2 (x1, x2, z) = some (r, z') →  f_B p l e R s m args below meth c L Ar D b0 3 0 (f_E below args s L Ar D b0 0 (.inl (some (.int r))) z') 0 2 [(0, .ref (L 30 0)), (1, .int x1), (2, .int x2)] [] z) (x1 : Int32) (x2 : Int32) (z : fST), b_m_over_31 k2 x1 x2 z = some (r, z') →  f_B p l e R s m args below meth c L Ar D b0 3 0 (f_E below args s L Ar D b0 0 (.inl (some (.int r))) z') 0 31 [(0, .ref (L 30 0)), (1, .int x1), (2, .int x2)] [] z := by
    intro k2 K2 x1 x2 z hF  H locs ls cells slots hW hS hl hc hs
    unfold b_m_over_31 at hF
    refine lv_iinc (k := 2) (x := x2) (v := x2 + 1) (lv' := [(2, .int (x2 + 1)), (0, .ref (L 30 0)), (1, .int x1)]) hx hb d_m_over_31 hl rfl rfl (by decide) rfl (fun ls hl => ?_)
    refine lv_goto (tgt := 2) hx hb d_m_over_34 (by decide) ?_
    exact K2 x1 (x2 + 1) z hF _ _ _ _ _ hW hS (lv_sub hl [1, 2, 0] rfl) (by omega) (by omega)
  have B2 : ∀  (n : Nat) (x1 : Int32) (x2 : Int32) (z : fST), f_it (b_m_over_2 ) n (x1, x2, z) = some (r, z') →  f_B p l e R s m args below meth c L Ar D b0 3 0 (f_E below args s L Ar D b0 0 (.inl (some (.int r))) z') 0 2 [(0, .ref (L 30 0)), (1, .int x1), (2, .int x2)] [] z := by
    intro  n
    induction n with
    | zero => intro x1 x2 z hF; cases hF
    | succ n ih =>
    intro x1 x2 z hF  H locs ls cells slots hW hS hl hc hs
    replace hF := f_it_s hF
    have K2 : ∀ (x1 : Int32) (x2 : Int32) (z : fST), f_it (b_m_over_2 ) n (x1, x2, z) = some (r, z') →  f_B p l e R s m args below meth c L Ar D b0 3 0 (f_E below args s L Ar D b0 0 (.inl (some (.int r))) z') 0 2 [(0, .ref (L 30 0)), (1, .int x1), (2, .int x2)] [] z := fun x1 x2 z hF => ih x1 x2 z hF
    generalize f_it (b_m_over_2 ) n = k2 at hF K2
    unfold b_m_over_2 at hF
    dsimp only at hF
    refine lv_iload_n hx hb d_m_over_2 rfl (lv_at hl 2 rfl) ?_
    refine lv_aload_n hx hb d_m_over_3 rfl (lv_at hl 0 rfl) ?_
    refine hw_get (k := 30) (i := 0) (n := 1) (j := 4) (v := .int (f_gI z 30 0 4)) hx hb hts hown hK hW fl_m_52 rfl (by omega) rfl d_m_over_4 ?_
    refine lv_icmp_ge (tgt := 37) hx hb d_m_over_7 (by decide) (fun h1 => ?_) (fun h1 => ?_)
    · replace hF := (if_pos h1).symm.trans hF
      refine lv_iconst (v := (-1)) hx hb d_m_over_37 (by decide) ?_
      exact hw_iret hx hb hr hlk (vp_nar_int _) hW hS (by omega) (by omega) d_m_over_38 hF
    · replace hF := (if_neg h1).symm.trans hF
      refine lv_aload_n hx hb d_m_over_10 rfl (lv_at hl 0 rfl) ?_
      refine lv_iload_n hx hb d_m_over_11 rfl (lv_at hl 2 rfl) ?_
      obtain ⟨v2, z2, hc2, hF⟩ := f_bd_some hF
      refine hw_VR (k := 30) (i := 0) (nk := 1) (As := [.int x2]) (rest := []) hx hb hml hown hts (c_m_rear_ok l hl0 hLi x2  _ _ _ hc2) st_m_72 (by decide) rfl (by omega) rfl rfl hK hZ hsz hS hW rfl hl.1 (Nat.le_of_ble_eq_true rfl) d_m_over_12 (by omega) (by omega) (by omega) (by omega) (fun H locs hW hS => ?_)
      refine lv_iload_n hx hb d_m_over_15 rfl (lv_at hl 1 rfl) ?_
      refine lv_icmp_ge (tgt := 31) hx hb d_m_over_16 (by decide) (fun h3 => ?_) (fun h3 => ?_)
      · replace hF := (if_pos h3).symm.trans hF
        exact B31 k2 K2 x1 x2 z2 hF _ _ _ _ _ hW hS (lv_sub hl [0, 1, 2] rfl) (by omega) (by omega)
      · replace hF := (if_neg h3).symm.trans hF
        refine lv_aload_n hx hb d_m_over_19 rfl (lv_at hl 0 rfl) ?_
        refine lv_iload_n hx hb d_m_over_20 rfl (lv_at hl 2 rfl) ?_
        refine lv_iconst (v := 2) hx hb d_m_over_21 (by decide) ?_
        obtain ⟨v4, z4, hc4, hF⟩ := f_bd_some hF
        refine hw_VR (k := 30) (i := 0) (nk := 1) (As := [.int x2, .int 2]) (rest := []) hx hb hml hown hts (c_m_get_ok l hl0 hLi x2 2  _ _ _ hc4) st_m_48 (by decide) rfl (by omega) rfl rfl hK hZ hsz hS hW rfl hl.1 (Nat.le_of_ble_eq_true rfl) d_m_over_22 (by omega) (by omega) (by omega) (by omega) (fun H locs hW hS => ?_)
        refine lv_iload_n hx hb d_m_over_25 rfl (lv_at hl 1 rfl) ?_
        refine lv_icmp_lt (tgt := 31) hx hb d_m_over_26 (by decide) (fun h5 => ?_) (fun h5 => ?_)
        · replace hF := (if_pos h5).symm.trans hF
          exact B31 k2 K2 x1 x2 z4 hF _ _ _ _ _ hW hS (lv_sub hl [0, 1, 2] rfl) (by omega) (by omega)
        · replace hF := (if_neg h5).symm.trans hF
          refine lv_iload_n hx hb d_m_over_29 rfl (lv_at hl 2 rfl) ?_
          exact hw_iret hx hb hr hlk (vp_nar_int _) hW hS (by omega) (by omega) d_m_over_30 hF
  intro H locs ls cells slots hW hS hl hc hs
  have hl : lv_has ls 3 [(0, .ref (L 30 0)), (1, .int a1)] := hl
  unfold F_m_over at hF
  refine lv_iconst (v := 0) hx hb d_m_over_0 (by decide) ?_
  refine lv_istore_n (lv' := [(2, .int 0), (0, .ref (L 30 0)), (1, .int a1)]) hx hb d_m_over_1 rfl hl (by decide) rfl (fun ls hl => ?_)
  exact B2 2000 a1 0 z hF _ _ _ _ _ hW hS (lv_sub hl [1, 2, 0] rfl) (by omega) (by omega)
set_option maxRecDepth 100000 in
set_option maxHeartbeats 4000000 in
theorem c_m_code_ok (l : Launch) (hl0 : l.stackTraces = false) {L : Nat → Nat → Nat} {Ar : Nat → ClassId} {D : va_G} {b0 : Nat} (hLi : f_L L b0) (a1 : Int32)  (z : fST) (r : Int32) (z' : fST) (hF : F_m_code a1 z = some (r, z')) : f_C l y_m_code wt 4 0 L Ar D b0 [.ref (L 30 0), .int a1] z (.inl (some (.int r))) z' := by
  refine f_ofW (cc := c_m_code) (maxL := 3) (ret := (some FieldType.boolean)) (by decide) w_m_code (Nat.le_of_ble_eq_true rfl) ?_
  intro p e s m args below meth c R hRf hRl hRc hRs hx hb hr hlk hml hno hts hown hK hZ hsz
  have B28 : ∀  (x1 : Int32) (y1 : Int32) (z : fST), b_m_code_28  x1 y1 z = some (r, z') →  f_B p l e R s m args below meth c L Ar D b0 3 0 (f_E below args s L Ar D b0 0 (.inl (some (.int r))) z') 0 28 [(0, .ref (L 30 0)), (1, .int x1)] [.int y1, .ref (L 30 0)] z := by
    intro  x1 y1 z hF  H locs ls cells slots hW hS hl hc hs
    unfold b_m_code_28 at hF
    refine lv_iconst (v := 2) hx hb d_m_code_28 (by decide) ?_
    obtain ⟨v5, z5, hc5, hF⟩ := f_bd_some hF
    refine hw_VR (k := 30) (i := 0) (nk := 1) (As := [.int y1, .int 2]) (rest := []) hx hb hml hown hts (c_m_fails_ok l hl0 hLi y1 2  _ _ _ hc5) st_m_59 (by decide) rfl (by omega) rfl rfl hK hZ hsz hS hW rfl hl.1 (Nat.le_of_ble_eq_true rfl) d_m_code_29 (by omega) (by omega) (by omega) (by omega) (fun H locs hW hS => ?_)
    refine lv_if_eq (tgt := 37) hx hb d_m_code_32 (by decide) (fun h6 => ?_) (fun h6 => ?_)
    · replace hF := (if_pos h6).symm.trans hF
      refine lv_aload_n hx hb d_m_code_37 rfl (lv_at hl 0 rfl) ?_
      refine lv_bipush (v := 15) hx hb d_m_code_38 (by decide) ?_
      obtain ⟨v7, z7, hc7, hF⟩ := f_bd_some hF
      refine hw_VR (k := 30) (i := 0) (nk := 1) (As := [.int 15]) (rest := []) hx hb hml hown hts (c_m_over_ok l hl0 hLi 15  _ _ _ hc7) st_m_82 (by decide) rfl (by omega) rfl rfl hK hZ hsz hS hW rfl hl.1 (Nat.le_of_ble_eq_true rfl) d_m_code_40 (by omega) (by omega) (by omega) (by omega) (fun H locs hW hS => ?_)
      refine lv_istore_n (lv' := [(2, .int v7), (0, .ref (L 30 0)), (1, .int x1)]) hx hb d_m_code_43 rfl hl (by decide) rfl (fun ls hl => ?_)
      refine lv_iload_n hx hb d_m_code_44 rfl (lv_at hl 0 rfl) ?_
      refine lv_iconst (v := (-1)) hx hb d_m_code_45 (by decide) ?_
      refine lv_icmp_eq (tgt := 60) hx hb d_m_code_46 (by decide) (fun h8 => ?_) (fun h8 => ?_)
      · replace hF := (if_pos h8).symm.trans hF
        refine lv_iconst (v := 0) hx hb d_m_code_60 (by decide) ?_
        exact hw_iret hx hb hr hlk (f_nZ (Or.inl rfl)) hW hS (by omega) (by omega) d_m_code_61 hF
      · replace hF := (if_neg h8).symm.trans hF
        refine lv_aload_n hx hb d_m_code_49 rfl (lv_at hl 1 rfl) ?_
        refine lv_iload_n hx hb d_m_code_50 rfl (lv_at hl 0 rfl) ?_
        refine lv_bipush (v := 7) hx hb d_m_code_51 (by decide) ?_
        obtain ⟨v9, z9, hc9, hF⟩ := f_bd_some hF
        refine hw_VR (k := 30) (i := 0) (nk := 1) (As := [.int v7, .int 7]) (rest := []) hx hb hml hown hts (c_m_get_ok l hl0 hLi v7 7  _ _ _ hc9) st_m_48 (by decide) rfl (by omega) rfl rfl hK hZ hsz hS hW rfl hl.1 (Nat.le_of_ble_eq_true rfl) d_m_code_53 (by omega) (by omega) (by omega) (by omega) (fun H locs hW hS => ?_)
        refine lv_iconst (v := 3) hx hb d_m_code_56 (by decide) ?_
        refine lv_icmp_ne (tgt := 62) hx hb d_m_code_57 (by decide) (fun h10 => ?_) (fun h10 => ?_)
        · replace hF := (if_neg h10).symm.trans hF
          refine lv_aload_n hx hb d_m_code_62 rfl (lv_at hl 1 rfl) ?_
          refine lv_iload_n hx hb d_m_code_63 rfl (lv_at hl 0 rfl) ?_
          refine lv_bipush (v := 9) hx hb d_m_code_64 (by decide) ?_
          refine lv_aload_n hx hb d_m_code_66 rfl (lv_at hl 1 rfl) ?_
          refine lv_iload_n hx hb d_m_code_67 rfl (lv_at hl 0 rfl) ?_
          refine lv_bipush (v := 7) hx hb d_m_code_68 (by decide) ?_
          obtain ⟨v11, z11, hc11, hF⟩ := f_bd_some hF
          refine hw_VR (k := 30) (i := 0) (nk := 1) (As := [.int v7, .int 7]) (rest := [.int 9, .int v7, .ref (L 30 0)]) hx hb hml hown hts (c_m_get_ok l hl0 hLi v7 7  _ _ _ hc11) st_m_48 (by decide) rfl (by omega) rfl rfl hK hZ hsz hS hW rfl hl.1 (Nat.le_of_ble_eq_true rfl) d_m_code_70 (by omega) (by omega) (by omega) (by omega) (fun H locs hW hS => ?_)
          refine lv_iadd hx hb d_m_code_73 ?_
          refine lv_iload_n hx hb d_m_code_74 rfl (lv_at hl 2 rfl) ?_
          obtain ⟨v12, z12, hc12, hF⟩ := f_bd_some hF
          refine hw_VR (k := 30) (i := 0) (nk := 1) (As := [.int v7, .int (9 + v11), .int x1]) (rest := []) hx hb hml hown hts (c_m_put_ok l hl0 hLi v7 (9 + v11) x1  _ _ _ hc12) st_m_78 (by decide) rfl (by omega) rfl rfl hK hZ hsz hS hW rfl hl.1 (Nat.le_of_ble_eq_true rfl) d_m_code_75 (by omega) (by omega) (by omega) (by omega) (fun H locs hW hS => ?_)
          refine lv_aload_n hx hb d_m_code_78 rfl (lv_at hl 1 rfl) ?_
          refine lv_iload_n hx hb d_m_code_79 rfl (lv_at hl 0 rfl) ?_
          refine lv_bipush (v := 7) hx hb d_m_code_80 (by decide) ?_
          refine lv_aload_n hx hb d_m_code_82 rfl (lv_at hl 1 rfl) ?_
          refine lv_iload_n hx hb d_m_code_83 rfl (lv_at hl 0 rfl) ?_
          refine lv_bipush (v := 7) hx hb d_m_code_84 (by decide) ?_
          obtain ⟨v13, z13, hc13, hF⟩ := f_bd_some hF
          refine hw_VR (k := 30) (i := 0) (nk := 1) (As := [.int v7, .int 7]) (rest := [.int 7, .int v7, .ref (L 30 0)]) hx hb hml hown hts (c_m_get_ok l hl0 hLi v7 7  _ _ _ hc13) st_m_48 (by decide) rfl (by omega) rfl rfl hK hZ hsz hS hW rfl hl.1 (Nat.le_of_ble_eq_true rfl) d_m_code_86 (by omega) (by omega) (by omega) (by omega) (fun H locs hW hS => ?_)
          refine lv_iconst (v := 1) hx hb d_m_code_89 (by decide) ?_
          refine lv_iadd hx hb d_m_code_90 ?_
          obtain ⟨v14, z14, hc14, hF⟩ := f_bd_some hF
          refine hw_VR (k := 30) (i := 0) (nk := 1) (As := [.int v7, .int 7, .int (v13 + 1)]) (rest := []) hx hb hml hown hts (c_m_put_ok l hl0 hLi v7 7 (v13 + 1)  _ _ _ hc14) st_m_78 (by decide) rfl (by omega) rfl rfl hK hZ hsz hS hW rfl hl.1 (Nat.le_of_ble_eq_true rfl) d_m_code_91 (by omega) (by omega) (by omega) (by omega) (fun H locs hW hS => ?_)
          refine lv_iconst (v := 1) hx hb d_m_code_94 (by decide) ?_
          exact hw_iret hx hb hr hlk (f_nZ (Or.inr rfl)) hW hS (by omega) (by omega) d_m_code_95 hF
        · replace hF := (if_pos h10).symm.trans hF
          refine lv_iconst (v := 0) hx hb d_m_code_60 (by decide) ?_
          exact hw_iret hx hb hr hlk (f_nZ (Or.inl rfl)) hW hS (by omega) (by omega) d_m_code_61 hF
    · replace hF := (if_neg h6).symm.trans hF
      refine lv_iconst (v := 0) hx hb d_m_code_35 (by decide) ?_
      exact hw_iret hx hb hr hlk (f_nZ (Or.inl rfl)) hW hS (by omega) (by omega) d_m_code_36 hF
  intro H locs ls cells slots hW hS hl hc hs
  have hl : lv_has ls 3 [(0, .ref (L 30 0)), (1, .int a1)] := hl
  unfold F_m_code at hF
  refine lv_aload_n hx hb d_m_code_0 rfl (lv_at hl 0 rfl) ?_
  refine lv_aload_n hx hb d_m_code_1 rfl (lv_at hl 0 rfl) ?_
  refine hw_get (k := 30) (i := 0) (n := 1) (j := 17) (v := .int (f_gI z 30 0 17)) hx hb hts hown hK hW fl_m_55 rfl (by omega) rfl d_m_code_2 ?_
  refine lv_iconst (v := 1) hx hb d_m_code_5 (by decide) ?_
  obtain ⟨v1, z1, hc1, hF⟩ := f_bd_some hF
  refine hw_VR (k := 30) (i := 0) (nk := 1) (As := [.int (f_gI z 30 0 17), .int 1]) (rest := []) hx hb hml hown hts (c_m_fails_ok l hl0 hLi (f_gI z 30 0 17) 1  _ _ _ hc1) st_m_59 (by decide) rfl (by omega) rfl rfl hK hZ hsz hS hW rfl hl.1 (Nat.le_of_ble_eq_true rfl) d_m_code_6 (by omega) (by omega) (by omega) (by omega) (fun H locs hW hS => ?_)
  refine lv_if_ne (tgt := 35) hx hb d_m_code_9 (by decide) (fun h2 => ?_) (fun h2 => ?_)
  · replace hF := (if_neg h2).symm.trans hF
    refine lv_iconst (v := 0) hx hb d_m_code_35 (by decide) ?_
    exact hw_iret hx hb hr hlk (f_nZ (Or.inl rfl)) hW hS (by omega) (by omega) d_m_code_36 hF
  · replace hF := (if_pos h2).symm.trans hF
    refine lv_aload_n hx hb d_m_code_12 rfl (lv_at hl 0 rfl) ?_
    refine lv_iload_n hx hb d_m_code_13 rfl (lv_at hl 1 rfl) ?_
    refine lv_iconst (v := 1) hx hb d_m_code_14 (by decide) ?_
    refine lv_ldc (v := 999999) hx hb hown (hts _ (wt_in (List.mem_of_getElem? (i := 815) (by decide +kernel)) rfl)) d_m_code_15 ?_
    obtain ⟨v3, z3, hc3, hF⟩ := f_bd_some hF
    refine hw_SR (As := [.int a1, .int 1, .int 999999]) (rest := [.ref (L 30 0)]) hx hb hml hown hts (c_m_within_ok l hl0 hLi a1 1 999999  _ _ _ hc3) st_m_63 hK hZ hsz hS hW rfl hl.1 (Nat.le_of_ble_eq_true rfl) d_m_code_17 (by omega) (by omega) (by omega) (by omega) (fun H locs hW hS => ?_)
    refine lv_if_ne (tgt := 27) hx hb d_m_code_20 (by decide) (fun h4 => ?_) (fun h4 => ?_)
    · replace hF := (if_neg h4).symm.trans hF
      refine lv_iconst (v := 0) hx hb d_m_code_27 (by decide) ?_
      exact B28 a1 0 z3 hF _ _ _ _ _ hW hS (lv_sub hl [0, 1] rfl) (by omega) (by omega)
    · replace hF := (if_pos h4).symm.trans hF
      refine lv_iconst (v := 1) hx hb d_m_code_23 (by decide) ?_
      refine lv_goto (tgt := 28) hx hb d_m_code_24 (by decide) ?_
      exact B28 a1 1 z3 hF _ _ _ _ _ hW hS (lv_sub hl [0, 1] rfl) (by omega) (by omega)
set_option maxRecDepth 100000 in
set_option maxHeartbeats 4000000 in
theorem c_m_width_ok (l : Launch) (hl0 : l.stackTraces = false) {L : Nat → Nat → Nat} {Ar : Nat → ClassId} {D : va_G} {b0 : Nat} (hLi : f_L L b0) (a1 : Int32)  (z : fST) (r : Int32) (z' : fST) (hF : F_m_width a1 z = some (r, z')) : f_C l y_m_width wt 4 0 L Ar D b0 [.ref (L 30 0), .int a1] z (.inl (some (.int r))) z' := by
  refine f_ofW (cc := c_m_width) (maxL := 3) (ret := (some FieldType.boolean)) (by decide) w_m_width (Nat.le_of_ble_eq_true rfl) ?_
  intro p e s m args below meth c R hRf hRl hRc hRs hx hb hr hlk hml hno hts hown hK hZ hsz
  have B29 : ∀  (x1 : Int32) (y1 : Int32) (z : fST), b_m_width_29  x1 y1 z = some (r, z') →  f_B p l e R s m args below meth c L Ar D b0 3 0 (f_E below args s L Ar D b0 0 (.inl (some (.int r))) z') 0 29 [(0, .ref (L 30 0)), (1, .int x1)] [.int y1, .ref (L 30 0)] z := by
    intro  x1 y1 z hF  H locs ls cells slots hW hS hl hc hs
    unfold b_m_width_29 at hF
    refine lv_iconst (v := 2) hx hb d_m_width_29 (by decide) ?_
    obtain ⟨v5, z5, hc5, hF⟩ := f_bd_some hF
    refine hw_VR (k := 30) (i := 0) (nk := 1) (As := [.int y1, .int 2]) (rest := []) hx hb hml hown hts (c_m_fails_ok l hl0 hLi y1 2  _ _ _ hc5) st_m_59 (by decide) rfl (by omega) rfl rfl hK hZ hsz hS hW rfl hl.1 (Nat.le_of_ble_eq_true rfl) d_m_width_30 (by omega) (by omega) (by omega) (by omega) (fun H locs hW hS => ?_)
    refine lv_if_eq (tgt := 38) hx hb d_m_width_33 (by decide) (fun h6 => ?_) (fun h6 => ?_)
    · replace hF := (if_pos h6).symm.trans hF
      refine lv_aload_n hx hb d_m_width_38 rfl (lv_at hl 0 rfl) ?_
      refine lv_bipush (v := 30) hx hb d_m_width_39 (by decide) ?_
      obtain ⟨v7, z7, hc7, hF⟩ := f_bd_some hF
      refine hw_VR (k := 30) (i := 0) (nk := 1) (As := [.int 30]) (rest := []) hx hb hml hown hts (c_m_over_ok l hl0 hLi 30  _ _ _ hc7) st_m_82 (by decide) rfl (by omega) rfl rfl hK hZ hsz hS hW rfl hl.1 (Nat.le_of_ble_eq_true rfl) d_m_width_41 (by omega) (by omega) (by omega) (by omega) (fun H locs hW hS => ?_)
      refine lv_istore_n (lv' := [(2, .int v7), (0, .ref (L 30 0)), (1, .int x1)]) hx hb d_m_width_44 rfl hl (by decide) rfl (fun ls hl => ?_)
      refine lv_iload_n hx hb d_m_width_45 rfl (lv_at hl 0 rfl) ?_
      refine lv_iconst (v := (-1)) hx hb d_m_width_46 (by decide) ?_
      refine lv_icmp_eq (tgt := 62) hx hb d_m_width_47 (by decide) (fun h8 => ?_) (fun h8 => ?_)
      · replace hF := (if_pos h8).symm.trans hF
        refine lv_iconst (v := 0) hx hb d_m_width_62 (by decide) ?_
        exact hw_iret hx hb hr hlk (f_nZ (Or.inl rfl)) hW hS (by omega) (by omega) d_m_width_63 hF
      · replace hF := (if_neg h8).symm.trans hF
        refine lv_aload_n hx hb d_m_width_50 rfl (lv_at hl 1 rfl) ?_
        refine lv_iload_n hx hb d_m_width_51 rfl (lv_at hl 0 rfl) ?_
        refine lv_bipush (v := 8) hx hb d_m_width_52 (by decide) ?_
        obtain ⟨v9, z9, hc9, hF⟩ := f_bd_some hF
        refine hw_VR (k := 30) (i := 0) (nk := 1) (As := [.int v7, .int 8]) (rest := []) hx hb hml hown hts (c_m_get_ok l hl0 hLi v7 8  _ _ _ hc9) st_m_48 (by decide) rfl (by omega) rfl rfl hK hZ hsz hS hW rfl hl.1 (Nat.le_of_ble_eq_true rfl) d_m_width_54 (by omega) (by omega) (by omega) (by omega) (fun H locs hW hS => ?_)
        refine lv_bipush (v := 8) hx hb d_m_width_57 (by decide) ?_
        refine lv_icmp_ne (tgt := 64) hx hb d_m_width_59 (by decide) (fun h10 => ?_) (fun h10 => ?_)
        · replace hF := (if_neg h10).symm.trans hF
          refine lv_aload_n hx hb d_m_width_64 rfl (lv_at hl 1 rfl) ?_
          refine lv_iload_n hx hb d_m_width_65 rfl (lv_at hl 0 rfl) ?_
          refine lv_bipush (v := 12) hx hb d_m_width_66 (by decide) ?_
          refine lv_aload_n hx hb d_m_width_68 rfl (lv_at hl 1 rfl) ?_
          refine lv_iload_n hx hb d_m_width_69 rfl (lv_at hl 0 rfl) ?_
          refine lv_bipush (v := 8) hx hb d_m_width_70 (by decide) ?_
          obtain ⟨v11, z11, hc11, hF⟩ := f_bd_some hF
          refine hw_VR (k := 30) (i := 0) (nk := 1) (As := [.int v7, .int 8]) (rest := [.int 12, .int v7, .ref (L 30 0)]) hx hb hml hown hts (c_m_get_ok l hl0 hLi v7 8  _ _ _ hc11) st_m_48 (by decide) rfl (by omega) rfl rfl hK hZ hsz hS hW rfl hl.1 (Nat.le_of_ble_eq_true rfl) d_m_width_72 (by omega) (by omega) (by omega) (by omega) (fun H locs hW hS => ?_)
          refine lv_iadd hx hb d_m_width_75 ?_
          refine lv_iload_n hx hb d_m_width_76 rfl (lv_at hl 2 rfl) ?_
          obtain ⟨v12, z12, hc12, hF⟩ := f_bd_some hF
          refine hw_VR (k := 30) (i := 0) (nk := 1) (As := [.int v7, .int (12 + v11), .int x1]) (rest := []) hx hb hml hown hts (c_m_put_ok l hl0 hLi v7 (12 + v11) x1  _ _ _ hc12) st_m_78 (by decide) rfl (by omega) rfl rfl hK hZ hsz hS hW rfl hl.1 (Nat.le_of_ble_eq_true rfl) d_m_width_77 (by omega) (by omega) (by omega) (by omega) (fun H locs hW hS => ?_)
          refine lv_aload_n hx hb d_m_width_80 rfl (lv_at hl 1 rfl) ?_
          refine lv_iload_n hx hb d_m_width_81 rfl (lv_at hl 0 rfl) ?_
          refine lv_bipush (v := 8) hx hb d_m_width_82 (by decide) ?_
          refine lv_aload_n hx hb d_m_width_84 rfl (lv_at hl 1 rfl) ?_
          refine lv_iload_n hx hb d_m_width_85 rfl (lv_at hl 0 rfl) ?_
          refine lv_bipush (v := 8) hx hb d_m_width_86 (by decide) ?_
          obtain ⟨v13, z13, hc13, hF⟩ := f_bd_some hF
          refine hw_VR (k := 30) (i := 0) (nk := 1) (As := [.int v7, .int 8]) (rest := [.int 8, .int v7, .ref (L 30 0)]) hx hb hml hown hts (c_m_get_ok l hl0 hLi v7 8  _ _ _ hc13) st_m_48 (by decide) rfl (by omega) rfl rfl hK hZ hsz hS hW rfl hl.1 (Nat.le_of_ble_eq_true rfl) d_m_width_88 (by omega) (by omega) (by omega) (by omega) (fun H locs hW hS => ?_)
          refine lv_iconst (v := 1) hx hb d_m_width_91 (by decide) ?_
          refine lv_iadd hx hb d_m_width_92 ?_
          obtain ⟨v14, z14, hc14, hF⟩ := f_bd_some hF
          refine hw_VR (k := 30) (i := 0) (nk := 1) (As := [.int v7, .int 8, .int (v13 + 1)]) (rest := []) hx hb hml hown hts (c_m_put_ok l hl0 hLi v7 8 (v13 + 1)  _ _ _ hc14) st_m_78 (by decide) rfl (by omega) rfl rfl hK hZ hsz hS hW rfl hl.1 (Nat.le_of_ble_eq_true rfl) d_m_width_93 (by omega) (by omega) (by omega) (by omega) (fun H locs hW hS => ?_)
          refine lv_iconst (v := 1) hx hb d_m_width_96 (by decide) ?_
          exact hw_iret hx hb hr hlk (f_nZ (Or.inr rfl)) hW hS (by omega) (by omega) d_m_width_97 hF
        · replace hF := (if_pos h10).symm.trans hF
          refine lv_iconst (v := 0) hx hb d_m_width_62 (by decide) ?_
          exact hw_iret hx hb hr hlk (f_nZ (Or.inl rfl)) hW hS (by omega) (by omega) d_m_width_63 hF
    · replace hF := (if_neg h6).symm.trans hF
      refine lv_iconst (v := 0) hx hb d_m_width_36 (by decide) ?_
      exact hw_iret hx hb hr hlk (f_nZ (Or.inl rfl)) hW hS (by omega) (by omega) d_m_width_37 hF
  intro H locs ls cells slots hW hS hl hc hs
  have hl : lv_has ls 3 [(0, .ref (L 30 0)), (1, .int a1)] := hl
  unfold F_m_width at hF
  refine lv_aload_n hx hb d_m_width_0 rfl (lv_at hl 0 rfl) ?_
  refine lv_aload_n hx hb d_m_width_1 rfl (lv_at hl 0 rfl) ?_
  refine hw_get (k := 30) (i := 0) (n := 1) (j := 17) (v := .int (f_gI z 30 0 17)) hx hb hts hown hK hW fl_m_55 rfl (by omega) rfl d_m_width_2 ?_
  refine lv_iconst (v := 1) hx hb d_m_width_5 (by decide) ?_
  obtain ⟨v1, z1, hc1, hF⟩ := f_bd_some hF
  refine hw_VR (k := 30) (i := 0) (nk := 1) (As := [.int (f_gI z 30 0 17), .int 1]) (rest := []) hx hb hml hown hts (c_m_fails_ok l hl0 hLi (f_gI z 30 0 17) 1  _ _ _ hc1) st_m_59 (by decide) rfl (by omega) rfl rfl hK hZ hsz hS hW rfl hl.1 (Nat.le_of_ble_eq_true rfl) d_m_width_6 (by omega) (by omega) (by omega) (by omega) (fun H locs hW hS => ?_)
  refine lv_if_ne (tgt := 36) hx hb d_m_width_9 (by decide) (fun h2 => ?_) (fun h2 => ?_)
  · replace hF := (if_neg h2).symm.trans hF
    refine lv_iconst (v := 0) hx hb d_m_width_36 (by decide) ?_
    exact hw_iret hx hb hr hlk (f_nZ (Or.inl rfl)) hW hS (by omega) (by omega) d_m_width_37 hF
  · replace hF := (if_pos h2).symm.trans hF
    refine lv_aload_n hx hb d_m_width_12 rfl (lv_at hl 0 rfl) ?_
    refine lv_iload_n hx hb d_m_width_13 rfl (lv_at hl 1 rfl) ?_
    refine lv_iconst (v := 0) hx hb d_m_width_14 (by decide) ?_
    refine lv_sipush (v := 255) hx hb d_m_width_15 (by decide) ?_
    obtain ⟨v3, z3, hc3, hF⟩ := f_bd_some hF
    refine hw_SR (As := [.int a1, .int 0, .int 255]) (rest := [.ref (L 30 0)]) hx hb hml hown hts (c_m_within_ok l hl0 hLi a1 0 255  _ _ _ hc3) st_m_63 hK hZ hsz hS hW rfl hl.1 (Nat.le_of_ble_eq_true rfl) d_m_width_18 (by omega) (by omega) (by omega) (by omega) (fun H locs hW hS => ?_)
    refine lv_if_ne (tgt := 28) hx hb d_m_width_21 (by decide) (fun h4 => ?_) (fun h4 => ?_)
    · replace hF := (if_neg h4).symm.trans hF
      refine lv_iconst (v := 0) hx hb d_m_width_28 (by decide) ?_
      exact B29 a1 0 z3 hF _ _ _ _ _ hW hS (lv_sub hl [0, 1] rfl) (by omega) (by omega)
    · replace hF := (if_pos h4).symm.trans hF
      refine lv_iconst (v := 1) hx hb d_m_width_24 (by decide) ?_
      refine lv_goto (tgt := 29) hx hb d_m_width_25 (by decide) ?_
      exact B29 a1 1 z3 hF _ _ _ _ _ hW hS (lv_sub hl [0, 1] rfl) (by omega) (by omega)
set_option maxRecDepth 100000 in
set_option maxHeartbeats 4000000 in
theorem c_m_weigh_ok (l : Launch) (hl0 : l.stackTraces = false) {L : Nat → Nat → Nat} {Ar : Nat → ClassId} {D : va_G} {b0 : Nat} (hLi : f_L L b0) (a1 : Int32)  (z : fST) (r : Int32) (z' : fST) (hF : F_m_weigh a1 z = some (r, z')) : f_C l y_m_weigh wt 4 0 L Ar D b0 [.ref (L 30 0), .int a1] z (.inl (some (.int r))) z' := by
  refine f_ofW (cc := c_m_weigh) (maxL := 3) (ret := (some FieldType.boolean)) (by decide) w_m_weigh (Nat.le_of_ble_eq_true rfl) ?_
  intro p e s m args below meth c R hRf hRl hRc hRs hx hb hr hlk hml hno hts hown hK hZ hsz
  have B29 : ∀  (x1 : Int32) (y1 : Int32) (z : fST), b_m_weigh_29  x1 y1 z = some (r, z') →  f_B p l e R s m args below meth c L Ar D b0 3 0 (f_E below args s L Ar D b0 0 (.inl (some (.int r))) z') 0 29 [(0, .ref (L 30 0)), (1, .int x1)] [.int y1, .ref (L 30 0)] z := by
    intro  x1 y1 z hF  H locs ls cells slots hW hS hl hc hs
    unfold b_m_weigh_29 at hF
    refine lv_iconst (v := 2) hx hb d_m_weigh_29 (by decide) ?_
    obtain ⟨v5, z5, hc5, hF⟩ := f_bd_some hF
    refine hw_VR (k := 30) (i := 0) (nk := 1) (As := [.int y1, .int 2]) (rest := []) hx hb hml hown hts (c_m_fails_ok l hl0 hLi y1 2  _ _ _ hc5) st_m_59 (by decide) rfl (by omega) rfl rfl hK hZ hsz hS hW rfl hl.1 (Nat.le_of_ble_eq_true rfl) d_m_weigh_30 (by omega) (by omega) (by omega) (by omega) (fun H locs hW hS => ?_)
    refine lv_if_eq (tgt := 38) hx hb d_m_weigh_33 (by decide) (fun h6 => ?_) (fun h6 => ?_)
    · replace hF := (if_pos h6).symm.trans hF
      refine lv_aload_n hx hb d_m_weigh_38 rfl (lv_at hl 0 rfl) ?_
      refine lv_bipush (v := 45) hx hb d_m_weigh_39 (by decide) ?_
      obtain ⟨v7, z7, hc7, hF⟩ := f_bd_some hF
      refine hw_VR (k := 30) (i := 0) (nk := 1) (As := [.int 45]) (rest := []) hx hb hml hown hts (c_m_over_ok l hl0 hLi 45  _ _ _ hc7) st_m_82 (by decide) rfl (by omega) rfl rfl hK hZ hsz hS hW rfl hl.1 (Nat.le_of_ble_eq_true rfl) d_m_weigh_41 (by omega) (by omega) (by omega) (by omega) (fun H locs hW hS => ?_)
      refine lv_istore_n (lv' := [(2, .int v7), (0, .ref (L 30 0)), (1, .int x1)]) hx hb d_m_weigh_44 rfl hl (by decide) rfl (fun ls hl => ?_)
      refine lv_iload_n hx hb d_m_weigh_45 rfl (lv_at hl 0 rfl) ?_
      refine lv_iconst (v := (-1)) hx hb d_m_weigh_46 (by decide) ?_
      refine lv_icmp_ne (tgt := 52) hx hb d_m_weigh_47 (by decide) (fun h8 => ?_) (fun h8 => ?_)
      · replace hF := (if_neg h8).symm.trans hF
        refine lv_aload_n hx hb d_m_weigh_52 rfl (lv_at hl 1 rfl) ?_
        refine lv_iload_n hx hb d_m_weigh_53 rfl (lv_at hl 0 rfl) ?_
        refine lv_bipush (v := 6) hx hb d_m_weigh_54 (by decide) ?_
        refine lv_iload_n hx hb d_m_weigh_56 rfl (lv_at hl 2 rfl) ?_
        obtain ⟨v9, z9, hc9, hF⟩ := f_bd_some hF
        refine hw_VR (k := 30) (i := 0) (nk := 1) (As := [.int v7, .int 6, .int x1]) (rest := []) hx hb hml hown hts (c_m_put_ok l hl0 hLi v7 6 x1  _ _ _ hc9) st_m_78 (by decide) rfl (by omega) rfl rfl hK hZ hsz hS hW rfl hl.1 (Nat.le_of_ble_eq_true rfl) d_m_weigh_57 (by omega) (by omega) (by omega) (by omega) (fun H locs hW hS => ?_)
        refine lv_iconst (v := 1) hx hb d_m_weigh_60 (by decide) ?_
        exact hw_iret hx hb hr hlk (f_nZ (Or.inr rfl)) hW hS (by omega) (by omega) d_m_weigh_61 hF
      · replace hF := (if_pos h8).symm.trans hF
        refine lv_iconst (v := 0) hx hb d_m_weigh_50 (by decide) ?_
        exact hw_iret hx hb hr hlk (f_nZ (Or.inl rfl)) hW hS (by omega) (by omega) d_m_weigh_51 hF
    · replace hF := (if_neg h6).symm.trans hF
      refine lv_iconst (v := 0) hx hb d_m_weigh_36 (by decide) ?_
      exact hw_iret hx hb hr hlk (f_nZ (Or.inl rfl)) hW hS (by omega) (by omega) d_m_weigh_37 hF
  intro H locs ls cells slots hW hS hl hc hs
  have hl : lv_has ls 3 [(0, .ref (L 30 0)), (1, .int a1)] := hl
  unfold F_m_weigh at hF
  refine lv_aload_n hx hb d_m_weigh_0 rfl (lv_at hl 0 rfl) ?_
  refine lv_aload_n hx hb d_m_weigh_1 rfl (lv_at hl 0 rfl) ?_
  refine hw_get (k := 30) (i := 0) (n := 1) (j := 17) (v := .int (f_gI z 30 0 17)) hx hb hts hown hK hW fl_m_55 rfl (by omega) rfl d_m_weigh_2 ?_
  refine lv_iconst (v := 1) hx hb d_m_weigh_5 (by decide) ?_
  obtain ⟨v1, z1, hc1, hF⟩ := f_bd_some hF
  refine hw_VR (k := 30) (i := 0) (nk := 1) (As := [.int (f_gI z 30 0 17), .int 1]) (rest := []) hx hb hml hown hts (c_m_fails_ok l hl0 hLi (f_gI z 30 0 17) 1  _ _ _ hc1) st_m_59 (by decide) rfl (by omega) rfl rfl hK hZ hsz hS hW rfl hl.1 (Nat.le_of_ble_eq_true rfl) d_m_weigh_6 (by omega) (by omega) (by omega) (by omega) (fun H locs hW hS => ?_)
  refine lv_if_ne (tgt := 36) hx hb d_m_weigh_9 (by decide) (fun h2 => ?_) (fun h2 => ?_)
  · replace hF := (if_neg h2).symm.trans hF
    refine lv_iconst (v := 0) hx hb d_m_weigh_36 (by decide) ?_
    exact hw_iret hx hb hr hlk (f_nZ (Or.inl rfl)) hW hS (by omega) (by omega) d_m_weigh_37 hF
  · replace hF := (if_pos h2).symm.trans hF
    refine lv_aload_n hx hb d_m_weigh_12 rfl (lv_at hl 0 rfl) ?_
    refine lv_iload_n hx hb d_m_weigh_13 rfl (lv_at hl 1 rfl) ?_
    refine lv_iconst (v := 0) hx hb d_m_weigh_14 (by decide) ?_
    refine lv_sipush (v := 5000) hx hb d_m_weigh_15 (by decide) ?_
    obtain ⟨v3, z3, hc3, hF⟩ := f_bd_some hF
    refine hw_SR (As := [.int a1, .int 0, .int 5000]) (rest := [.ref (L 30 0)]) hx hb hml hown hts (c_m_within_ok l hl0 hLi a1 0 5000  _ _ _ hc3) st_m_63 hK hZ hsz hS hW rfl hl.1 (Nat.le_of_ble_eq_true rfl) d_m_weigh_18 (by omega) (by omega) (by omega) (by omega) (fun H locs hW hS => ?_)
    refine lv_if_ne (tgt := 28) hx hb d_m_weigh_21 (by decide) (fun h4 => ?_) (fun h4 => ?_)
    · replace hF := (if_neg h4).symm.trans hF
      refine lv_iconst (v := 0) hx hb d_m_weigh_28 (by decide) ?_
      exact B29 a1 0 z3 hF _ _ _ _ _ hW hS (lv_sub hl [0, 1] rfl) (by omega) (by omega)
    · replace hF := (if_pos h4).symm.trans hF
      refine lv_iconst (v := 1) hx hb d_m_weigh_24 (by decide) ?_
      refine lv_goto (tgt := 29) hx hb d_m_weigh_25 (by decide) ?_
      exact B29 a1 1 z3 hF _ _ _ _ _ hW hS (lv_sub hl [0, 1] rfl) (by omega) (by omega)
set_option maxRecDepth 100000 in
set_option maxHeartbeats 4000000 in
theorem c_m_writes_ok (l : Launch) (hl0 : l.stackTraces = false) {L : Nat → Nat → Nat} {Ar : Nat → ClassId} {D : va_G} {b0 : Nat} (hLi : f_L L b0)   (z : fST) (r : Int32) (z' : fST) (hF : F_m_writes  z = some (r, z')) : f_C l y_m_writes wt 1 0 L Ar D b0 [.ref (L 30 0)] z (.inl (some (.int r))) z' := by
  refine f_ofW (cc := c_m_writes) (maxL := 1) (ret := (some FieldType.boolean)) (by decide) w_m_writes (Nat.le_of_ble_eq_true rfl) ?_
  intro p e s m args below meth c R hRf hRl hRc hRs hx hb hr hlk hml hno hts hown hK hZ hsz
  have B37 : ∀  (y1 : Int32) (y2 : Int32) (z : fST), b_m_writes_37  y1 y2 z = some (r, z') →  f_B p l e R s m args below meth c L Ar D b0 1 0 (f_E below args s L Ar D b0 0 (.inl (some (.int r))) z') 0 37 [(0, .ref (L 30 0))] [.int y2, .int y1, .ref (L 30 0)] z := by
    intro  y1 y2 z hF  H locs ls cells slots hW hS hl hc hs
    unfold b_m_writes_37 at hF
    refine lv_isub hx hb d_m_writes_37 ?_
    refine hw_put (k := 30) (i := 0) (n := 1) (j := 18) (v := y1 - y2) hx hb hts hown hK hLi hW hS fp_m_85 (vp_nar_int _) rfl rfl (by omega) d_m_writes_38 (fun H locs hW hS => ?_)
    refine lv_aload_n hx hb d_m_writes_41 rfl (lv_at hl 0 rfl) ?_
    refine lv_dup hx hb d_m_writes_42 rfl ?_
    refine hw_get (k := 30) (i := 0) (n := 1) (j := 19) (v := .int (f_gI (f_pI z 30 0 18 (y1 - y2)) 30 0 19)) hx hb hts hown hK hW fl_m_88 rfl (by omega) rfl d_m_writes_43 ?_
    refine lv_iconst (v := 1) hx hb d_m_writes_46 (by decide) ?_
    refine lv_iadd hx hb d_m_writes_47 ?_
    refine hw_put (k := 30) (i := 0) (n := 1) (j := 19) (v := (f_gI (f_pI z 30 0 18 (y1 - y2)) 30 0 19) + 1) hx hb hts hown hK hLi hW hS fp_m_88 (vp_nar_int _) rfl rfl (by omega) d_m_writes_48 (fun H locs hW hS => ?_)
    refine lv_iconst (v := 1) hx hb d_m_writes_51 (by decide) ?_
    exact hw_iret hx hb hr hlk (f_nZ (Or.inr rfl)) hW hS (by omega) (by omega) d_m_writes_52 hF
  intro H locs ls cells slots hW hS hl hc hs
  have hl : lv_has ls 1 [(0, .ref (L 30 0))] := hl
  unfold F_m_writes at hF
  refine lv_aload_n hx hb d_m_writes_0 rfl (lv_at hl 0 rfl) ?_
  refine hw_get (k := 30) (i := 0) (n := 1) (j := 18) (v := .int (f_gI z 30 0 18)) hx hb hts hown hK hW fl_m_85 rfl (by omega) rfl d_m_writes_1 ?_
  refine lv_iconst (v := 1) hx hb d_m_writes_4 (by decide) ?_
  refine lv_icmp_ne (tgt := 20) hx hb d_m_writes_5 (by decide) (fun h1 => ?_) (fun h1 => ?_)
  · replace hF := (if_neg h1).symm.trans hF
    refine lv_aload_n hx hb d_m_writes_20 rfl (lv_at hl 0 rfl) ?_
    refine lv_dup hx hb d_m_writes_21 rfl ?_
    refine hw_get (k := 30) (i := 0) (n := 1) (j := 18) (v := .int (f_gI z 30 0 18)) hx hb hts hown hK hW fl_m_85 rfl (by omega) rfl d_m_writes_22 ?_
    refine lv_aload_n hx hb d_m_writes_25 rfl (lv_at hl 0 rfl) ?_
    refine hw_get (k := 30) (i := 0) (n := 1) (j := 18) (v := .int (f_gI z 30 0 18)) hx hb hts hown hK hW fl_m_85 rfl (by omega) rfl d_m_writes_26 ?_
    refine lv_if_le (tgt := 36) hx hb d_m_writes_29 (by decide) (fun h2 => ?_) (fun h2 => ?_)
    · replace hF := (if_pos h2).symm.trans hF
      refine lv_iconst (v := 0) hx hb d_m_writes_36 (by decide) ?_
      exact B37 (f_gI z 30 0 18) 0 z hF _ _ _ _ _ hW hS (lv_sub hl [0] rfl) (by omega) (by omega)
    · replace hF := (if_neg h2).symm.trans hF
      refine lv_iconst (v := 1) hx hb d_m_writes_32 (by decide) ?_
      refine lv_goto (tgt := 37) hx hb d_m_writes_33 (by decide) ?_
      exact B37 (f_gI z 30 0 18) 1 z hF _ _ _ _ _ hW hS (lv_sub hl [0] rfl) (by omega) (by omega)
  · replace hF := (if_pos h1).symm.trans hF
    refine lv_aload_n hx hb d_m_writes_8 rfl (lv_at hl 0 rfl) ?_
    refine lv_iconst (v := 0) hx hb d_m_writes_9 (by decide) ?_
    refine hw_put (k := 30) (i := 0) (n := 1) (j := 18) (v := 0) hx hb hts hown hK hLi hW hS fp_m_85 (vp_nar_int _) rfl rfl (by omega) d_m_writes_10 (fun H locs hW hS => ?_)
    refine lv_aload_n hx hb d_m_writes_13 rfl (lv_at hl 0 rfl) ?_
    refine lv_iconst (v := 1) hx hb d_m_writes_14 (by decide) ?_
    refine hw_put (k := 30) (i := 0) (n := 1) (j := 17) (v := 1) hx hb hts hown hK hLi hW hS fp_m_55 (f_nZ (Or.inr rfl)) (f_fZ _ (Or.inr rfl)) rfl (by omega) d_m_writes_15 (fun H locs hW hS => ?_)
    refine lv_iconst (v := 0) hx hb d_m_writes_18 (by decide) ?_
    exact hw_iret hx hb hr hlk (f_nZ (Or.inl rfl)) hW hS (by omega) (by omega) d_m_writes_19 hF
set_option maxRecDepth 100000 in
set_option maxHeartbeats 4000000 in
theorem c_m_isBlocked_ok (l : Launch) (hl0 : l.stackTraces = false) {L : Nat → Nat → Nat} {Ar : Nat → ClassId} {D : va_G} {b0 : Nat} (hLi : f_L L b0)   (z : fST) (r : Int32) (z' : fST) (hF : F_m_isBlocked  z = some (r, z')) : f_C l y_m_isBlocked wt 2 0 L Ar D b0 [.ref (L 30 0)] z (.inl (some (.int r))) z' := by
  refine f_ofW (cc := c_m_isBlocked) (maxL := 2) (ret := (some FieldType.boolean)) (by decide) w_m_isBlocked (Nat.le_of_ble_eq_true rfl) ?_
  intro p e s m args below meth c R hRf hRl hRc hRs hx hb hr hlk hml hno hts hown hK hZ hsz
  have B34 : ∀ (k2 : Int32 × fST → Option (Int32 × fST)) (K2 : ∀ (x1 : Int32) (z : fST), k2 (x1, z) = some (r, z') →  f_B p l e R s m args below meth c L Ar D b0 2 0 (f_E below args s L Ar D b0 0 (.inl (some (.int r))) z') 0 2 [(0, .ref (L 30 0)), (1, .int x1)] [] z) (x1 : Int32) (z : fST), b_m_isBlocked_34 k2 x1 z = some (r, z') →  f_B p l e R s m args below meth c L Ar D b0 2 0 (f_E below args s L Ar D b0 0 (.inl (some (.int r))) z') 0 34 [(0, .ref (L 30 0)), (1, .int x1)] [] z := by
    intro k2 K2 x1 z hF  H locs ls cells slots hW hS hl hc hs
    unfold b_m_isBlocked_34 at hF
    refine lv_iinc (k := 1) (x := x1) (v := x1 + 1) (lv' := [(1, .int (x1 + 1)), (0, .ref (L 30 0))]) hx hb d_m_isBlocked_34 hl rfl rfl (by decide) rfl (fun ls hl => ?_)
    refine lv_goto (tgt := 2) hx hb d_m_isBlocked_37 (by decide) ?_
    exact K2 (x1 + 1) z hF _ _ _ _ _ hW hS (lv_sub hl [1, 0] rfl) (by omega) (by omega)
  have B2 : ∀  (n : Nat) (x1 : Int32) (z : fST), f_it (b_m_isBlocked_2 ) n (x1, z) = some (r, z') →  f_B p l e R s m args below meth c L Ar D b0 2 0 (f_E below args s L Ar D b0 0 (.inl (some (.int r))) z') 0 2 [(0, .ref (L 30 0)), (1, .int x1)] [] z := by
    intro  n
    induction n with
    | zero => intro x1 z hF; cases hF
    | succ n ih =>
    intro x1 z hF  H locs ls cells slots hW hS hl hc hs
    replace hF := f_it_s hF
    have K2 : ∀ (x1 : Int32) (z : fST), f_it (b_m_isBlocked_2 ) n (x1, z) = some (r, z') →  f_B p l e R s m args below meth c L Ar D b0 2 0 (f_E below args s L Ar D b0 0 (.inl (some (.int r))) z') 0 2 [(0, .ref (L 30 0)), (1, .int x1)] [] z := fun x1 z hF => ih x1 z hF
    generalize f_it (b_m_isBlocked_2 ) n = k2 at hF K2
    unfold b_m_isBlocked_2 at hF
    dsimp only at hF
    refine lv_iload_n hx hb d_m_isBlocked_2 rfl (lv_at hl 1 rfl) ?_
    refine lv_aload_n hx hb d_m_isBlocked_3 rfl (lv_at hl 0 rfl) ?_
    refine hw_get (k := 30) (i := 0) (n := 1) (j := 4) (v := .int (f_gI z 30 0 4)) hx hb hts hown hK hW fl_m_52 rfl (by omega) rfl d_m_isBlocked_4 ?_
    refine lv_icmp_ge (tgt := 40) hx hb d_m_isBlocked_7 (by decide) (fun h1 => ?_) (fun h1 => ?_)
    · replace hF := (if_pos h1).symm.trans hF
      refine lv_iconst (v := 0) hx hb d_m_isBlocked_40 (by decide) ?_
      exact hw_iret hx hb hr hlk (f_nZ (Or.inl rfl)) hW hS (by omega) (by omega) d_m_isBlocked_41 hF
    · replace hF := (if_neg h1).symm.trans hF
      refine lv_aload_n hx hb d_m_isBlocked_10 rfl (lv_at hl 0 rfl) ?_
      refine lv_iload_n hx hb d_m_isBlocked_11 rfl (lv_at hl 1 rfl) ?_
      refine lv_iconst (v := 2) hx hb d_m_isBlocked_12 (by decide) ?_
      obtain ⟨v2, z2, hc2, hF⟩ := f_bd_some hF
      refine hw_VR (k := 30) (i := 0) (nk := 1) (As := [.int x1, .int 2]) (rest := []) hx hb hml hown hts (c_m_get_ok l hl0 hLi x1 2  _ _ _ hc2) st_m_48 (by decide) rfl (by omega) rfl rfl hK hZ hsz hS hW rfl hl.1 (Nat.le_of_ble_eq_true rfl) d_m_isBlocked_13 (by omega) (by omega) (by omega) (by omega) (fun H locs hW hS => ?_)
      refine lv_bipush (v := 104) hx hb d_m_isBlocked_16 (by decide) ?_
      refine lv_icmp_ne (tgt := 34) hx hb d_m_isBlocked_18 (by decide) (fun h3 => ?_) (fun h3 => ?_)
      · replace hF := (if_neg h3).symm.trans hF
        exact B34 k2 K2 x1 z2 hF _ _ _ _ _ hW hS (lv_sub hl [0, 1] rfl) (by omega) (by omega)
      · replace hF := (if_pos h3).symm.trans hF
        refine lv_aload_n hx hb d_m_isBlocked_21 rfl (lv_at hl 0 rfl) ?_
        refine lv_iload_n hx hb d_m_isBlocked_22 rfl (lv_at hl 1 rfl) ?_
        refine lv_iconst (v := 3) hx hb d_m_isBlocked_23 (by decide) ?_
        obtain ⟨v4, z4, hc4, hF⟩ := f_bd_some hF
        refine hw_VR (k := 30) (i := 0) (nk := 1) (As := [.int x1, .int 3]) (rest := []) hx hb hml hown hts (c_m_get_ok l hl0 hLi x1 3  _ _ _ hc4) st_m_48 (by decide) rfl (by omega) rfl rfl hK hZ hsz hS hW rfl hl.1 (Nat.le_of_ble_eq_true rfl) d_m_isBlocked_24 (by omega) (by omega) (by omega) (by omega) (fun H locs hW hS => ?_)
        refine lv_bipush (v := 10) hx hb d_m_isBlocked_27 (by decide) ?_
        refine lv_icmp_eq (tgt := 34) hx hb d_m_isBlocked_29 (by decide) (fun h5 => ?_) (fun h5 => ?_)
        · replace hF := (if_pos h5).symm.trans hF
          exact B34 k2 K2 x1 z4 hF _ _ _ _ _ hW hS (lv_sub hl [0, 1] rfl) (by omega) (by omega)
        · replace hF := (if_neg h5).symm.trans hF
          refine lv_iconst (v := 1) hx hb d_m_isBlocked_32 (by decide) ?_
          exact hw_iret hx hb hr hlk (f_nZ (Or.inr rfl)) hW hS (by omega) (by omega) d_m_isBlocked_33 hF
  intro H locs ls cells slots hW hS hl hc hs
  have hl : lv_has ls 2 [(0, .ref (L 30 0))] := hl
  unfold F_m_isBlocked at hF
  refine lv_iconst (v := 0) hx hb d_m_isBlocked_0 (by decide) ?_
  refine lv_istore_n (lv' := [(1, .int 0), (0, .ref (L 30 0))]) hx hb d_m_isBlocked_1 rfl hl (by decide) rfl (fun ls hl => ?_)
  exact B2 2000 0 z hF _ _ _ _ _ hW hS (lv_sub hl [1, 0] rfl) (by omega) (by omega)
set_option maxRecDepth 100000 in
set_option maxHeartbeats 4000000 in
theorem c_m_isSuspicious_ok (l : Launch) (hl0 : l.stackTraces = false) {L : Nat → Nat → Nat} {Ar : Nat → ClassId} {D : va_G} {b0 : Nat} (hLi : f_L L b0)   (z : fST) (r : Int32) (z' : fST) (hF : F_m_isSuspicious  z = some (r, z')) : f_C l y_m_isSuspicious wt 1 0 L Ar D b0 [.ref (L 30 0)] z (.inl (some (.int r))) z' := by
  refine f_ofW (cc := c_m_isSuspicious) (maxL := 1) (ret := (some FieldType.boolean)) (by decide) w_m_isSuspicious (Nat.le_of_ble_eq_true rfl) ?_
  intro p e s m args below meth c R hRf hRl hRc hRs hx hb hr hlk hml hno hts hown hK hZ hsz
  intro H locs ls cells slots hW hS hl hc hs
  have hl : lv_has ls 1 [(0, .ref (L 30 0))] := hl
  unfold F_m_isSuspicious at hF
  refine lv_aload_n hx hb d_m_isSuspicious_0 rfl (lv_at hl 0 rfl) ?_
  refine hw_get (k := 30) (i := 0) (n := 1) (j := 16) (v := .int (f_gI z 30 0 16)) hx hb hts hown hK hW fl_m_91 rfl (by omega) rfl d_m_isSuspicious_1 ?_
  refine lv_bipush (v := 50) hx hb d_m_isSuspicious_4 (by decide) ?_
  refine lv_icmp_le (tgt := 13) hx hb d_m_isSuspicious_6 (by decide) (fun h1 => ?_) (fun h1 => ?_)
  · replace hF := (if_pos h1).symm.trans hF
    refine lv_iconst (v := 0) hx hb d_m_isSuspicious_13 (by decide) ?_
    exact hw_iret hx hb hr hlk (f_nZ (Or.inl rfl)) hW hS (by omega) (by omega) d_m_isSuspicious_14 hF
  · replace hF := (if_neg h1).symm.trans hF
    refine lv_iconst (v := 1) hx hb d_m_isSuspicious_9 (by decide) ?_
    refine lv_goto (tgt := 14) hx hb d_m_isSuspicious_10 (by decide) ?_
    exact hw_iret hx hb hr hlk (f_nZ (Or.inr rfl)) hW hS (by omega) (by omega) d_m_isSuspicious_14 hF
