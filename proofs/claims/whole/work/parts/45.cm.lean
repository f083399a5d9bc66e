/-! contracts: the method does what its pure function says -/
set_option maxRecDepth 100000 in
set_option maxHeartbeats 4000000 in
theorem c_m_power_ok (l : Launch) (hl0 : l.stackTraces = false) {L : Nat → Nat → Nat} {Ar : Nat → ClassId} {D : va_G} {b0 : Nat} (hLi : f_L L b0)   (z : fST) (r : Int32) (z' : fST) (hF : F_m_power  z = some (r, z')) : f_C l y_m_power wt 3 0 L Ar D b0 [.ref (L 30 0)] z (.inl (some (.int r))) z' := by
  refine f_ofW (cc := c_m_power) (maxL := 4) (ret := (some FieldType.int)) (by decide) w_m_power (Nat.le_of_ble_eq_true rfl) ?_
  intro p e s m args below meth c R hRf hRl hRc hRs hx hb hr hlk hml hno hts hown hK hZ hsz
  have B160 : ∀  (x1 : Int32) (z : fST), b_m_power_160  x1 z = some (r, z') →  f_B p l e R s m args below meth c L Ar D b0 4 0 (f_E below args s L Ar D b0 0 (.inl (some (.int r))) z') 0 160 [(0, .ref (L 30 0)), (1, .int x1)] [] z := by
    intro  x1 z hF  H locs ls cells slots hW hS hl hc hs
    unfold b_m_power_160 at hF
    refine lv_aload_n hx hb d_m_power_160 rfl (lv_at hl 0 rfl) ?_
    refine hw_get (k := 30) (i := 0) (n := 1) (j := 19) (v := .int (f_gI z 30 0 19)) hx hb hts hown hK hW fl_m_88 rfl (by omega) rfl d_m_power_161 ?_
    refine lv_iload_n hx hb d_m_power_164 rfl (lv_at hl 1 rfl) ?_
    refine lv_isub hx hb d_m_power_165 ?_
    exact hw_iret hx hb hr hlk (vp_nar_int _) hW hS (by omega) (by omega) d_m_power_166 hF
  have B155 : ∀ (k106 : Int32 × Int32 × fST → Option (Int32 × fST)) (K106 : ∀ (x1 : Int32) (x2 : Int32) (z : fST), k106 (x1, x2, z) = some (r, z') →  f_B p l e R s m args below meth c L Ar D b0 4 0 (f_E below args s L Ar D b0 0 (.inl (some (.int r))) z') 0 106 [(0, .ref (L 30 0)), (1, .int x1), (2, .int x2)] [] z) (x1 : Int32) (y0 : Int32) (y1 : Int32) (z : fST), b_m_power_155 k106 x1 y0 y1 z = some (r, z') →  f_B p l e R s m args below meth c L Ar D b0 4 0 (f_E below args s L Ar D b0 0 (.inl (some (.int r))) z') 0 155 [(0, .ref (L 30 0)), (1, .int x1)] [.int y1, .int y0] z := by
    intro k106 K106 x1 y0 y1 z hF  H locs ls cells slots hW hS hl hc hs
    unfold b_m_power_155 at hF
    refine lv_iadd hx hb d_m_power_155 ?_
    refine lv_istore_n (lv' := [(2, .int (y0 + y1)), (0, .ref (L 30 0)), (1, .int x1)]) hx hb d_m_power_156 rfl hl (by decide) rfl (fun ls hl => ?_)
    refine lv_goto (tgt := 106) hx hb d_m_power_157 (by decide) ?_
    exact K106 x1 (y0 + y1) z hF _ _ _ _ _ hW hS (lv_sub hl [1, 2, 0] rfl) (by omega) (by omega)
  have B144 : ∀ (k106 : Int32 × Int32 × fST → Option (Int32 × fST)) (K106 : ∀ (x1 : Int32) (x2 : Int32) (z : fST), k106 (x1, x2, z) = some (r, z') →  f_B p l e R s m args below meth c L Ar D b0 4 0 (f_E below args s L Ar D b0 0 (.inl (some (.int r))) z') 0 106 [(0, .ref (L 30 0)), (1, .int x1), (2, .int x2)] [] z) (x1 : Int32) (x2 : Int32) (y0 : Int32) (z : fST), b_m_power_144 k106 x1 x2 y0 z = some (r, z') →  f_B p l e R s m args below meth c L Ar D b0 4 0 (f_E below args s L Ar D b0 0 (.inl (some (.int r))) z') 0 144 [(0, .ref (L 30 0)), (1, .int x1), (2, .int x2)] [.int y0] z := by
    intro k106 K106 x1 x2 y0 z hF  H locs ls cells slots hW hS hl hc hs
    unfold b_m_power_144 at hF
    refine lv_istore_n (lv' := [(3, .int y0), (0, .ref (L 30 0)), (1, .int x1), (2, .int x2)]) hx hb d_m_power_144 rfl hl (by decide) rfl (fun ls hl => ?_)
    refine lv_iload_n hx hb d_m_power_145 rfl (lv_at hl 3 rfl) ?_
    refine lv_iload_n hx hb d_m_power_146 rfl (lv_at hl 0 rfl) ?_
    refine lv_if_eq (tgt := 154) hx hb d_m_power_147 (by decide) (fun h19 => ?_) (fun h19 => ?_)
    · replace hF := (if_pos h19).symm.trans hF
      refine lv_iconst (v := 1) hx hb d_m_power_154 (by decide) ?_
      exact B155 k106 K106 x1 x2 1 z hF _ _ _ _ _ hW hS (lv_sub hl [1, 2] rfl) (by omega) (by omega)
    · replace hF := (if_neg h19).symm.trans hF
      refine lv_iconst (v := 0) hx hb d_m_power_150 (by decide) ?_
      refine lv_goto (tgt := 155) hx hb d_m_power_151 (by decide) ?_
      exact B155 k106 K106 x1 x2 0 z hF _ _ _ _ _ hW hS (lv_sub hl [1, 2] rfl) (by omega) (by omega)
  have B143 : ∀ (k106 : Int32 × Int32 × fST → Option (Int32 × fST)) (K106 : ∀ (x1 : Int32) (x2 : Int32) (z : fST), k106 (x1, x2, z) = some (r, z') →  f_B p l e R s m args below meth c L Ar D b0 4 0 (f_E below args s L Ar D b0 0 (.inl (some (.int r))) z') 0 106 [(0, .ref (L 30 0)), (1, .int x1), (2, .int x2)] [] z) (x1 : Int32) (x2 : Int32) (z : fST), b_m_power_143 k106 x1 x2 z = some (r, z') →  f_B p l e R s m args below meth c L Ar D b0 4 0 (f_E below args s L Ar D b0 0 (.inl (some (.int r))) z') 0 143 [(0, .ref (L 30 0)), (1, .int x1), (2, .int x2)] [] z := by
    intro k106 K106 x1 x2 z hF  H locs ls cells slots hW hS hl hc hs
    unfold b_m_power_143 at hF
    refine lv_iconst (v := 0) hx hb d_m_power_143 (by decide) ?_
    exact B144 k106 K106 x1 x2 0 z hF _ _ _ _ _ hW hS (lv_sub hl [0, 1, 2] rfl) (by omega) (by omega)
  have B106 : ∀  (n : Nat) (x1 : Int32) (x2 : Int32) (z : fST), f_it (b_m_power_106 ) n (x1, x2, z) = some (r, z') →  f_B p l e R s m args below meth c L Ar D b0 4 0 (f_E below args s L Ar D b0 0 (.inl (some (.int r))) z') 0 106 [(0, .ref (L 30 0)), (1, .int x1), (2, .int x2)] [] z := by
    intro  n
    induction n with
    | zero => intro x1 x2 z hF; cases hF
    | succ n ih =>
    intro x1 x2 z hF  H locs ls cells slots hW hS hl hc hs
    replace hF := f_it_s hF
    have K106 : ∀ (x1 : Int32) (x2 : Int32) (z : fST), f_it (b_m_power_106 ) n (x1, x2, z) = some (r, z') →  f_B p l e R s m args below meth c L Ar D b0 4 0 (f_E below args s L Ar D b0 0 (.inl (some (.int r))) z') 0 106 [(0, .ref (L 30 0)), (1, .int x1), (2, .int x2)] [] z := fun x1 x2 z hF => ih x1 x2 z hF
    generalize f_it (b_m_power_106 ) n = k106 at hF K106
    unfold b_m_power_106 at hF
    dsimp only at hF
    refine lv_iload_n hx hb d_m_power_106 rfl (lv_at hl 2 rfl) ?_
    refine lv_aload_n hx hb d_m_power_107 rfl (lv_at hl 0 rfl) ?_
    refine hw_get (k := 30) (i := 0) (n := 1) (j := 4) (v := .int (f_gI z 30 0 4)) hx hb hts hown hK hW fl_m_52 rfl (by omega) rfl d_m_power_108 ?_
    refine lv_icmp_ge (tgt := 160) hx hb d_m_power_111 (by decide) (fun h13 => ?_) (fun h13 => ?_)
    · replace hF := (if_pos h13).symm.trans hF
      exact B160 x1 z hF _ _ _ _ _ hW hS (lv_sub hl [0, 1] rfl) (by omega) (by omega)
    · replace hF := (if_neg h13).symm.trans hF
      refine lv_aload_n hx hb d_m_power_114 rfl (lv_at hl 0 rfl) ?_
      refine hw_get (k := 30) (i := 0) (n := 1) (j := 17) (v := .int (f_gI z 30 0 17)) hx hb hts hown hK hW fl_m_55 rfl (by omega) rfl d_m_power_115 ?_
      refine lv_if_ne (tgt := 160) hx hb d_m_power_118 (by decide) (fun h14 => ?_) (fun h14 => ?_)
      · replace hF := (if_neg h14).symm.trans hF
        exact B160 x1 z hF _ _ _ _ _ hW hS (lv_sub hl [0, 1] rfl) (by omega) (by omega)
      · replace hF := (if_pos h14).symm.trans hF
        refine lv_aload_n hx hb d_m_power_121 rfl (lv_at hl 0 rfl) ?_
        refine lv_iload_n hx hb d_m_power_122 rfl (lv_at hl 2 rfl) ?_
        obtain ⟨v15, z15, hc15, hF⟩ := f_bd_some hF
        refine hw_VR (k := 30) (i := 0) (nk := 1) (As := [.int x2]) (rest := []) hx hb hml hown hts (c_m_rear_ok l hl0 hLi x2  _ _ _ hc15) st_m_72 (by decide) rfl (by omega) rfl rfl hK hZ hsz hS hW rfl hl.1 (Nat.le_of_ble_eq_true rfl) d_m_power_123 (by omega) (by omega) (by omega) (by omega) (fun H locs hW hS => ?_)
        refine lv_bipush (v := 110) hx hb d_m_power_126 (by decide) ?_
        refine lv_icmp_lt (tgt := 143) hx hb d_m_power_128 (by decide) (fun h16 => ?_) (fun h16 => ?_)
        · replace hF := (if_pos h16).symm.trans hF
          exact B143 k106 K106 x1 x2 z15 hF _ _ _ _ _ hW hS (lv_sub hl [0, 1, 2] rfl) (by omega) (by omega)
        · replace hF := (if_neg h16).symm.trans hF
          refine lv_aload_n hx hb d_m_power_131 rfl (lv_at hl 0 rfl) ?_
          refine lv_iload_n hx hb d_m_power_132 rfl (lv_at hl 2 rfl) ?_
          obtain ⟨v17, z17, hc17, hF⟩ := f_bd_some hF
          refine hw_VR (k := 30) (i := 0) (nk := 1) (As := [.int x2]) (rest := []) hx hb hml hown hts (c_m_drop_ok l hl0 hLi x2  _ _ _ hc17) st_m_132 (by decide) rfl (by omega) rfl rfl hK hZ hsz hS hW rfl hl.1 (Nat.le_of_ble_eq_true rfl) d_m_power_133 (by omega) (by omega) (by omega) (by omega) (fun H locs hW hS => ?_)
          refine lv_if_eq (tgt := 143) hx hb d_m_power_136 (by decide) (fun h18 => ?_) (fun h18 => ?_)
          · replace hF := (if_pos h18).symm.trans hF
            exact B143 k106 K106 x1 x2 z17 hF _ _ _ _ _ hW hS (lv_sub hl [0, 1, 2] rfl) (by omega) (by omega)
          · replace hF := (if_neg h18).symm.trans hF
            refine lv_iconst (v := 1) hx hb d_m_power_139 (by decide) ?_
            refine lv_goto (tgt := 144) hx hb d_m_power_140 (by decide) ?_
            exact B144 k106 K106 x1 x2 1 z17 hF _ _ _ _ _ hW hS (lv_sub hl [0, 1, 2] rfl) (by omega) (by omega)
  have B104 : ∀  (x1 : Int32) (z : fST), b_m_power_104  x1 z = some (r, z') →  f_B p l e R s m args below meth c L Ar D b0 4 0 (f_E below args s L Ar D b0 0 (.inl (some (.int r))) z') 0 104 [(0, .ref (L 30 0)), (1, .int x1)] [] z := by
    intro  x1 z hF  H locs ls cells slots hW hS hl hc hs
    unfold b_m_power_104 at hF
    refine lv_iconst (v := 0) hx hb d_m_power_104 (by decide) ?_
    refine lv_istore_n (lv' := [(2, .int 0), (0, .ref (L 30 0)), (1, .int x1)]) hx hb d_m_power_105 rfl hl (by decide) rfl (fun ls hl => ?_)
    exact B106 2000 x1 0 z hF _ _ _ _ _ hW hS (lv_sub hl [1, 2, 0] rfl) (by omega) (by omega)
  have B98 : ∀ (k58 : Int32 × Int32 × fST → Option (Int32 × fST)) (K58 : ∀ (x1 : Int32) (x2 : Int32) (z : fST), k58 (x1, x2, z) = some (r, z') →  f_B p l e R s m args below meth c L Ar D b0 4 0 (f_E below args s L Ar D b0 0 (.inl (some (.int r))) z') 0 58 [(0, .ref (L 30 0)), (1, .int x1), (2, .int x2)] [] z) (x1 : Int32) (x2 : Int32) (z : fST), b_m_power_98 k58 x1 x2 z = some (r, z') →  f_B p l e R s m args below meth c L Ar D b0 4 0 (f_E below args s L Ar D b0 0 (.inl (some (.int r))) z') 0 98 [(0, .ref (L 30 0)), (1, .int x1), (2, .int x2)] [] z := by
    intro k58 K58 x1 x2 z hF  H locs ls cells slots hW hS hl hc hs
    unfold b_m_power_98 at hF
    refine lv_iinc (k := 2) (x := x2) (v := x2 + 1) (lv' := [(2, .int (x2 + 1)), (0, .ref (L 30 0)), (1, .int x1)]) hx hb d_m_power_98 hl rfl rfl (by decide) rfl (fun ls hl => ?_)
    refine lv_goto (tgt := 58) hx hb d_m_power_101 (by decide) ?_
    exact K58 x1 (x2 + 1) z hF _ _ _ _ _ hW hS (lv_sub hl [1, 2, 0] rfl) (by omega) (by omega)
  have B58 : ∀  (n : Nat) (x1 : Int32) (x2 : Int32) (z : fST), f_it (b_m_power_58 ) n (x1, x2, z) = some (r, z') →  f_B p l e R s m args below meth c L Ar D b0 4 0 (f_E below args s L Ar D b0 0 (.inl (some (.int r))) z') 0 58 [(0, .ref (L 30 0)), (1, .int x1), (2, .int x2)] [] z := by
    intro  n
    induction n with
    | zero => intro x1 x2 z hF; cases hF
    | succ n ih =>
    intro x1 x2 z hF  H locs ls cells slots hW hS hl hc hs
    replace hF := f_it_s hF
    have K58 : ∀ (x1 : Int32) (x2 : Int32) (z : fST), f_it (b_m_power_58 ) n (x1, x2, z) = some (r, z') →  f_B p l e R s m args below meth c L Ar D b0 4 0 (f_E below args s L Ar D b0 0 (.inl (some (.int r))) z') 0 58 [(0, .ref (L 30 0)), (1, .int x1), (2, .int x2)] [] z := fun x1 x2 z hF => ih x1 x2 z hF
    generalize f_it (b_m_power_58 ) n = k58 at hF K58
    unfold b_m_power_58 at hF
    dsimp only at hF
    refine lv_iload_n hx hb d_m_power_58 rfl (lv_at hl 2 rfl) ?_
    refine lv_aload_n hx hb d_m_power_59 rfl (lv_at hl 0 rfl) ?_
    refine hw_get (k := 30) (i := 0) (n := 1) (j := 4) (v := .int (f_gI z 30 0 4)) hx hb hts hown hK hW fl_m_52 rfl (by omega) rfl d_m_power_60 ?_
    refine lv_icmp_ge (tgt := 104) hx hb d_m_power_63 (by decide) (fun h6 => ?_) (fun h6 => ?_)
    · replace hF := (if_pos h6).symm.trans hF
      exact B104 x1 z hF _ _ _ _ _ hW hS (lv_sub hl [0, 1] rfl) (by omega) (by omega)
    · replace hF := (if_neg h6).symm.trans hF
      refine lv_aload_n hx hb d_m_power_66 rfl (lv_at hl 0 rfl) ?_
      refine hw_get (k := 30) (i := 0) (n := 1) (j := 17) (v := .int (f_gI z 30 0 17)) hx hb hts hown hK hW fl_m_55 rfl (by omega) rfl d_m_power_67 ?_
      refine lv_if_ne (tgt := 104) hx hb d_m_power_70 (by decide) (fun h7 => ?_) (fun h7 => ?_)
      · replace hF := (if_neg h7).symm.trans hF
        exact B104 x1 z hF _ _ _ _ _ hW hS (lv_sub hl [0, 1] rfl) (by omega) (by omega)
      · replace hF := (if_pos h7).symm.trans hF
        refine lv_aload_n hx hb d_m_power_73 rfl (lv_at hl 0 rfl) ?_
        refine lv_iload_n hx hb d_m_power_74 rfl (lv_at hl 2 rfl) ?_
        refine lv_iconst (v := 2) hx hb d_m_power_75 (by decide) ?_
        obtain ⟨v8, z8, hc8, hF⟩ := f_bd_some hF
        refine hw_VR (k := 30) (i := 0) (nk := 1) (As := [.int x2, .int 2]) (rest := []) hx hb hml hown hts (c_m_get_ok l hl0 hLi x2 2  _ _ _ hc8) st_m_48 (by decide) rfl (by omega) rfl rfl hK hZ hsz hS hW rfl hl.1 (Nat.le_of_ble_eq_true rfl) d_m_power_76 (by omega) (by omega) (by omega) (by omega) (fun H locs hW hS => ?_)
        refine lv_bipush (v := 105) hx hb d_m_power_79 (by decide) ?_
        refine lv_icmp_lt (tgt := 98) hx hb d_m_power_81 (by decide) (fun h9 => ?_) (fun h9 => ?_)
        · replace hF := (if_pos h9).symm.trans hF
          exact B98 k58 K58 x1 x2 z8 hF _ _ _ _ _ hW hS (lv_sub hl [0, 1, 2] rfl) (by omega) (by omega)
        · replace hF := (if_neg h9).symm.trans hF
          refine lv_aload_n hx hb d_m_power_84 rfl (lv_at hl 0 rfl) ?_
          refine lv_iload_n hx hb d_m_power_85 rfl (lv_at hl 2 rfl) ?_
          refine lv_iconst (v := 5) hx hb d_m_power_86 (by decide) ?_
          obtain ⟨v10, z10, hc10, hF⟩ := f_bd_some hF
          refine hw_VR (k := 30) (i := 0) (nk := 1) (As := [.int x2, .int 5]) (rest := []) hx hb hml hown hts (c_m_get_ok l hl0 hLi x2 5  _ _ _ hc10) st_m_48 (by decide) rfl (by omega) rfl rfl hK hZ hsz hS hW rfl hl.1 (Nat.le_of_ble_eq_true rfl) d_m_power_87 (by omega) (by omega) (by omega) (by omega) (fun H locs hW hS => ?_)
          refine lv_if_ne (tgt := 98) hx hb d_m_power_90 (by decide) (fun h11 => ?_) (fun h11 => ?_)
          · replace hF := (if_neg h11).symm.trans hF
            exact B98 k58 K58 x1 x2 z10 hF _ _ _ _ _ hW hS (lv_sub hl [0, 1, 2] rfl) (by omega) (by omega)
          · replace hF := (if_pos h11).symm.trans hF
            refine lv_aload_n hx hb d_m_power_93 rfl (lv_at hl 0 rfl) ?_
            refine lv_iload_n hx hb d_m_power_94 rfl (lv_at hl 2 rfl) ?_
            obtain ⟨v12, z12, hc12, hF⟩ := f_bd_some hF
            refine hw_VR (k := 30) (i := 0) (nk := 1) (As := [.int x2]) (rest := []) hx hb hml hown hts (c_m_pay_ok l hl0 hLi x2  _ _ _ hc12) st_m_129 (by decide) rfl (by omega) rfl rfl hK hZ hsz hS hW rfl hl.1 (Nat.le_of_ble_eq_true rfl) d_m_power_95 (by omega) (by omega) (by omega) (by omega) (fun H locs hW hS => ?_)
            exact B98 k58 K58 x1 x2 z12 hF _ _ _ _ _ hW hS (lv_sub hl [0, 1, 2] rfl) (by omega) (by omega)
  have B50 : ∀ (k26 : Int32 × Int32 × fST → Option (Int32 × fST)) (K26 : ∀ (x1 : Int32) (x2 : Int32) (z : fST), k26 (x1, x2, z) = some (r, z') →  f_B p l e R s m args below meth c L Ar D b0 4 0 (f_E below args s L Ar D b0 0 (.inl (some (.int r))) z') 0 26 [(0, .ref (L 30 0)), (1, .int x1), (2, .int x2)] [] z) (x1 : Int32) (x2 : Int32) (z : fST), b_m_power_50 k26 x1 x2 z = some (r, z') →  f_B p l e R s m args below meth c L Ar D b0 4 0 (f_E below args s L Ar D b0 0 (.inl (some (.int r))) z') 0 50 [(0, .ref (L 30 0)), (1, .int x1), (2, .int x2)] [] z := by
    intro k26 K26 x1 x2 z hF  H locs ls cells slots hW hS hl hc hs
    unfold b_m_power_50 at hF
    refine lv_iinc (k := 2) (x := x2) (v := x2 + 1) (lv' := [(2, .int (x2 + 1)), (0, .ref (L 30 0)), (1, .int x1)]) hx hb d_m_power_50 hl rfl rfl (by decide) rfl (fun ls hl => ?_)
    refine lv_goto (tgt := 26) hx hb d_m_power_53 (by decide) ?_
    exact K26 x1 (x2 + 1) z hF _ _ _ _ _ hW hS (lv_sub hl [1, 2, 0] rfl) (by omega) (by omega)
  have B26 : ∀  (n : Nat) (x1 : Int32) (x2 : Int32) (z : fST), f_it (b_m_power_26 ) n (x1, x2, z) = some (r, z') →  f_B p l e R s m args below meth c L Ar D b0 4 0 (f_E below args s L Ar D b0 0 (.inl (some (.int r))) z') 0 26 [(0, .ref (L 30 0)), (1, .int x1), (2, .int x2)] [] z := by
    intro  n
    induction n with
    | zero => intro x1 x2 z hF; cases hF
    | succ n ih =>
    intro x1 x2 z hF  H locs ls cells slots hW hS hl hc hs
    replace hF := f_it_s hF
    have K26 : ∀ (x1 : Int32) (x2 : Int32) (z : fST), f_it (b_m_power_26 ) n (x1, x2, z) = some (r, z') →  f_B p l e R s m args below meth c L Ar D b0 4 0 (f_E below args s L Ar D b0 0 (.inl (some (.int r))) z') 0 26 [(0, .ref (L 30 0)), (1, .int x1), (2, .int x2)] [] z := fun x1 x2 z hF => ih x1 x2 z hF
    generalize f_it (b_m_power_26 ) n = k26 at hF K26
    unfold b_m_power_26 at hF
    dsimp only at hF
    refine lv_iload_n hx hb d_m_power_26 rfl (lv_at hl 2 rfl) ?_
    refine lv_aload_n hx hb d_m_power_27 rfl (lv_at hl 0 rfl) ?_
    refine hw_get (k := 30) (i := 0) (n := 1) (j := 4) (v := .int (f_gI z 30 0 4)) hx hb hts hown hK hW fl_m_52 rfl (by omega) rfl d_m_power_28 ?_
    refine lv_icmp_ge (tgt := 56) hx hb d_m_power_31 (by decide) (fun h2 => ?_) (fun h2 => ?_)
    · replace hF := (if_pos h2).symm.trans hF
      refine lv_iconst (v := 0) hx hb d_m_power_56 (by decide) ?_
      refine lv_istore_n (lv' := [(2, .int 0), (0, .ref (L 30 0)), (1, .int x1)]) hx hb d_m_power_57 rfl hl (by decide) rfl (fun ls hl => ?_)
      exact B58 2000 x1 0 z hF _ _ _ _ _ hW hS (lv_sub hl [1, 2, 0] rfl) (by omega) (by omega)
    · replace hF := (if_neg h2).symm.trans hF
      refine lv_aload_n hx hb d_m_power_34 rfl (lv_at hl 0 rfl) ?_
      refine lv_iload_n hx hb d_m_power_35 rfl (lv_at hl 2 rfl) ?_
      refine lv_iconst (v := 2) hx hb d_m_power_36 (by decide) ?_
      obtain ⟨v3, z3, hc3, hF⟩ := f_bd_some hF
      refine hw_VR (k := 30) (i := 0) (nk := 1) (As := [.int x2, .int 2]) (rest := []) hx hb hml hown hts (c_m_get_ok l hl0 hLi x2 2  _ _ _ hc3) st_m_48 (by decide) rfl (by omega) rfl rfl hK hZ hsz hS hW rfl hl.1 (Nat.le_of_ble_eq_true rfl) d_m_power_37 (by omega) (by omega) (by omega) (by omega) (fun H locs hW hS => ?_)
      refine lv_bipush (v := 105) hx hb d_m_power_40 (by decide) ?_
      refine lv_icmp_ge (tgt := 50) hx hb d_m_power_42 (by decide) (fun h4 => ?_) (fun h4 => ?_)
      · replace hF := (if_pos h4).symm.trans hF
        exact B50 k26 K26 x1 x2 z3 hF _ _ _ _ _ hW hS (lv_sub hl [0, 1, 2] rfl) (by omega) (by omega)
      · replace hF := (if_neg h4).symm.trans hF
        refine lv_aload_n hx hb d_m_power_45 rfl (lv_at hl 0 rfl) ?_
        refine lv_iload_n hx hb d_m_power_46 rfl (lv_at hl 2 rfl) ?_
        obtain ⟨v5, z5, hc5, hF⟩ := f_bd_some hF
        refine hw_VR (k := 30) (i := 0) (nk := 1) (As := [.int x2]) (rest := []) hx hb hml hown hts (c_m_forget_ok l hl0 hLi x2  _ _ _ hc5) st_m_136 (by decide) rfl (by omega) rfl rfl hK hZ hsz hS hW rfl hl.1 (Nat.le_of_ble_eq_true rfl) d_m_power_47 (by omega) (by omega) (by omega) (by omega) (fun H locs hW hS => ?_)
        exact B50 k26 K26 x1 x2 z5 hF _ _ _ _ _ hW hS (lv_sub hl [0, 1, 2] rfl) (by omega) (by omega)
  intro H locs ls cells slots hW hS hl hc hs
  have hl : lv_has ls 4 [(0, .ref (L 30 0))] := hl
  unfold F_m_power at hF
  refine lv_aload_n hx hb d_m_power_0 rfl (lv_at hl 0 rfl) ?_
  refine lv_iconst (v := 0) hx hb d_m_power_1 (by decide) ?_
  refine hw_put (k := 30) (i := 0) (n := 1) (j := 25) (v := 0) hx hb hts hown hK hLi hW hS fp_m_44 (vp_nar_int _) rfl rfl (by omega) d_m_power_2 (fun H locs hW hS => ?_)
  refine lv_aload_n hx hb d_m_power_5 rfl (lv_at hl 0 rfl) ?_
  refine hw_get (k := 30) (i := 0) (n := 1) (j := 17) (v := .int (f_gI (f_pI z 30 0 25 0) 30 0 17)) hx hb hts hown hK hW fl_m_55 rfl (by omega) rfl d_m_power_6 ?_
  refine lv_if_ne (tgt := 14) hx hb d_m_power_9 (by decide) (fun h1 => ?_) (fun h1 => ?_)
  · replace hF := (if_neg h1).symm.trans hF
    refine lv_aload_n hx hb d_m_power_14 rfl (lv_at hl 0 rfl) ?_
    refine lv_iconst (v := 0) hx hb d_m_power_15 (by decide) ?_
    refine hw_put (k := 30) (i := 0) (n := 1) (j := 17) (v := 0) hx hb hts hown hK hLi hW hS fp_m_55 (f_nZ (Or.inl rfl)) (f_fZ _ (Or.inl rfl)) rfl (by omega) d_m_power_16 (fun H locs hW hS => ?_)
    refine lv_aload_n hx hb d_m_power_19 rfl (lv_at hl 0 rfl) ?_
    refine hw_get (k := 30) (i := 0) (n := 1) (j := 19) (v := .int (f_gI (f_pI (f_pI z 30 0 25 0) 30 0 17 0) 30 0 19)) hx hb hts hown hK hW fl_m_88 rfl (by omega) rfl d_m_power_20 ?_
    refine lv_istore_n (lv' := [(1, .int (f_gI (f_pI (f_pI z 30 0 25 0) 30 0 17 0) 30 0 19)), (0, .ref (L 30 0))]) hx hb d_m_power_23 rfl hl (by decide) rfl (fun ls hl => ?_)
    refine lv_iconst (v := 0) hx hb d_m_power_24 (by decide) ?_
    refine lv_istore_n (lv' := [(2, .int 0), (1, .int (f_gI (f_pI (f_pI z 30 0 25 0) 30 0 17 0) 30 0 19)), (0, .ref (L 30 0))]) hx hb d_m_power_25 rfl hl (by decide) rfl (fun ls hl => ?_)
    exact B26 2000 (f_gI (f_pI (f_pI z 30 0 25 0) 30 0 17 0) 30 0 19) 0 (f_pI (f_pI z 30 0 25 0) 30 0 17 0) hF _ _ _ _ _ hW hS (lv_sub hl [2, 1, 0] rfl) (by omega) (by omega)
  · replace hF := (if_pos h1).symm.trans hF
    refine lv_iconst (v := (-1)) hx hb d_m_power_12 (by decide) ?_
    exact hw_iret hx hb hr hlk (vp_nar_int _) hW hS (by omega) (by omega) d_m_power_13 hF
set_option maxRecDepth 100000 in
set_option maxHeartbeats 4000000 in
theorem c_m_rest_ok (l : Launch) (hl0 : l.stackTraces = false) {L : Nat → Nat → Nat} {Ar : Nat → ClassId} {D : va_G} {b0 : Nat} (hLi : f_L L b0) (a0 : Int32) (a1 : Int32) (a2 : Int32)  (z : fST) (r : Int32) (z' : fST) (hF : F_m_rest a0 a1 a2 z = some (r, z')) : f_C l y_m_rest wt 1 0 L Ar D b0 [.int a0, .int a1, .int a2] z (.inl (some (.int r))) z' := by
  refine f_ofW (cc := c_m_rest) (maxL := 6) (ret := (some FieldType.int)) (by decide) w_m_rest (Nat.le_of_ble_eq_true rfl) ?_
  intro p e s m args below meth c R hRf hRl hRc hRs hx hb hr hlk hml hno hts hown hK hZ hsz
  have B27 : ∀  (n : Nat) (x0 : Int32) (x3 : Int32) (x4 : Int32) (z : fST), f_it (b_m_rest_27 ) n (x0, x3, x4, z) = some (r, z') →  f_B p l e R s m args below meth c L Ar D b0 6 0 (f_E below args s L Ar D b0 0 (.inl (some (.int r))) z') 0 27 [(0, .int x0), (3, .int x3), (4, .int x4)] [] z := by
    intro  n
    induction n with
    | zero => intro x0 x3 x4 z hF; cases hF
    | succ n ih =>
    intro x0 x3 x4 z hF  H locs ls cells slots hW hS hl hc hs
    replace hF := f_it_s hF
    have K27 : ∀ (x0 : Int32) (x3 : Int32) (x4 : Int32) (z : fST), f_it (b_m_rest_27 ) n (x0, x3, x4, z) = some (r, z') →  f_B p l e R s m args below meth c L Ar D b0 6 0 (f_E below args s L Ar D b0 0 (.inl (some (.int r))) z') 0 27 [(0, .int x0), (3, .int x3), (4, .int x4)] [] z := fun x0 x3 x4 z hF => ih x0 x3 x4 z hF
    generalize f_it (b_m_rest_27 ) n = k27 at hF K27
    unfold b_m_rest_27 at hF
    dsimp only at hF
    refine lv_iload hx hb d_m_rest_27 (lv_at hl 2 rfl) ?_
    refine lv_if_le (tgt := 58) hx hb d_m_rest_29 (by decide) (fun h2 => ?_) (fun h2 => ?_)
    · replace hF := (if_pos h2).symm.trans hF
      refine lv_iload_n hx hb d_m_rest_58 rfl (lv_at hl 1 rfl) ?_
      exact hw_iret hx hb hr hlk (vp_nar_int _) hW hS (by omega) (by omega) d_m_rest_59 hF
    · replace hF := (if_neg h2).symm.trans hF
      refine lv_bipush (v := 10) hx hb d_m_rest_32 (by decide) ?_
      refine lv_iload_n hx hb d_m_rest_34 rfl (lv_at hl 1 rfl) ?_
      refine lv_imul hx hb d_m_rest_35 ?_
      refine lv_iload_n hx hb d_m_rest_36 rfl (lv_at hl 0 rfl) ?_
      refine lv_iload hx hb d_m_rest_37 (lv_at hl 2 rfl) ?_
      obtain ⟨g3, hF⟩ := f_gd_some hF
      refine lv_idiv hx hb d_m_rest_39 (of_decide_eq_true g3) ?_
      refine lv_bipush (v := 10) hx hb d_m_rest_40 (by decide) ?_
      refine lv_irem hx hb d_m_rest_42 (by decide) ?_
      refine lv_iadd hx hb d_m_rest_43 ?_
      refine lv_bipush (v := 97) hx hb d_m_rest_44 (by decide) ?_
      refine lv_irem hx hb d_m_rest_46 (by decide) ?_
      refine lv_istore_n (lv' := [(3, .int (((10 * x3) + ((x0 / x4) - (x0 / x4) / 10 * 10)) - ((10 * x3) + ((x0 / x4) - (x0 / x4) / 10 * 10)) / 97 * 97)), (0, .int x0), (4, .int x4)]) hx hb d_m_rest_47 rfl hl (by decide) rfl (fun ls hl => ?_)
      refine lv_iload hx hb d_m_rest_48 (lv_at hl 2 rfl) ?_
      refine lv_bipush (v := 10) hx hb d_m_rest_50 (by decide) ?_
      refine lv_idiv hx hb d_m_rest_52 (by decide) ?_
      refine lv_istore (lv' := [(4, .int (x4 / 10)), (3, .int (((10 * x3) + ((x0 / x4) - (x0 / x4) / 10 * 10)) - ((10 * x3) + ((x0 / x4) - (x0 / x4) / 10 * 10)) / 97 * 97)), (0, .int x0)]) hx hb d_m_rest_53 hl (by decide) rfl (fun ls hl => ?_)
      refine lv_goto (tgt := 27) hx hb d_m_rest_55 (by decide) ?_
      exact K27 x0 (((10 * x3) + ((x0 / x4) - (x0 / x4) / 10 * 10)) - ((10 * x3) + ((x0 / x4) - (x0 / x4) / 10 * 10)) / 97 * 97) (x4 / 10) z hF _ _ _ _ _ hW hS (lv_sub hl [2, 1, 0] rfl) (by omega) (by omega)
  have B8 : ∀  (n : Nat) (x0 : Int32) (x1 : Int32) (x3 : Int32) (x4 : Int32) (x5 : Int32) (z : fST), f_it (b_m_rest_8 ) n (x0, x1, x3, x4, x5, z) = some (r, z') →  f_B p l e R s m args below meth c L Ar D b0 6 0 (f_E below args s L Ar D b0 0 (.inl (some (.int r))) z') 0 8 [(0, .int x0), (1, .int x1), (3, .int x3), (4, .int x4), (5, .int x5)] [] z := by
    intro  n
    induction n with
    | zero => intro x0 x1 x3 x4 x5 z hF; cases hF
    | succ n ih =>
    intro x0 x1 x3 x4 x5 z hF  H locs ls cells slots hW hS hl hc hs
    replace hF := f_it_s hF
    have K8 : ∀ (x0 : Int32) (x1 : Int32) (x3 : Int32) (x4 : Int32) (x5 : Int32) (z : fST), f_it (b_m_rest_8 ) n (x0, x1, x3, x4, x5, z) = some (r, z') →  f_B p l e R s m args below meth c L Ar D b0 6 0 (f_E below args s L Ar D b0 0 (.inl (some (.int r))) z') 0 8 [(0, .int x0), (1, .int x1), (3, .int x3), (4, .int x4), (5, .int x5)] [] z := fun x0 x1 x3 x4 x5 z hF => ih x0 x1 x3 x4 x5 z hF
    generalize f_it (b_m_rest_8 ) n = k8 at hF K8
    unfold b_m_rest_8 at hF
    dsimp only at hF
    refine lv_iload hx hb d_m_rest_8 (lv_at hl 4 rfl) ?_
    refine lv_iload_n hx hb d_m_rest_10 rfl (lv_at hl 1 rfl) ?_
    refine lv_icmp_ge (tgt := 27) hx hb d_m_rest_11 (by decide) (fun h1 => ?_) (fun h1 => ?_)
    · replace hF := (if_pos h1).symm.trans hF
      exact B27 2000 x0 x3 x4 z hF _ _ _ _ _ hW hS (lv_sub hl [0, 2, 3] rfl) (by omega) (by omega)
    · replace hF := (if_neg h1).symm.trans hF
      refine lv_bipush (v := 10) hx hb d_m_rest_14 (by decide) ?_
      refine lv_iload hx hb d_m_rest_16 (lv_at hl 3 rfl) ?_
      refine lv_imul hx hb d_m_rest_18 ?_
      refine lv_istore (lv' := [(4, .int (10 * x4)), (0, .int x0), (1, .int x1), (3, .int x3), (5, .int x5)]) hx hb d_m_rest_19 hl (by decide) rfl (fun ls hl => ?_)
      refine lv_iinc (k := 4) (x := x5) (v := x5 + 1) (lv' := [(5, .int (x5 + 1)), (4, .int (10 * x4)), (0, .int x0), (1, .int x1), (3, .int x3)]) hx hb d_m_rest_21 hl rfl rfl (by decide) rfl (fun ls hl => ?_)
      refine lv_goto (tgt := 8) hx hb d_m_rest_24 (by decide) ?_
      exact K8 x0 x1 x3 (10 * x4) (x5 + 1) z hF _ _ _ _ _ hW hS (lv_sub hl [2, 3, 4, 1, 0] rfl) (by omega) (by omega)
  intro H locs ls cells slots hW hS hl hc hs
  have hl : lv_has ls 6 [(0, .int a0), (1, .int a1), (2, .int a2)] := hl
  unfold F_m_rest at hF
  refine lv_iload_n hx hb d_m_rest_0 rfl (lv_at hl 2 rfl) ?_
  refine lv_istore_n (lv' := [(3, .int a2), (0, .int a0), (1, .int a1), (2, .int a2)]) hx hb d_m_rest_1 rfl hl (by decide) rfl (fun ls hl => ?_)
  refine lv_iconst (v := 1) hx hb d_m_rest_2 (by decide) ?_
  refine lv_istore (lv' := [(4, .int 1), (3, .int a2), (0, .int a0), (1, .int a1), (2, .int a2)]) hx hb d_m_rest_3 hl (by decide) rfl (fun ls hl => ?_)
  refine lv_iconst (v := 1) hx hb d_m_rest_5 (by decide) ?_
  refine lv_istore (lv' := [(5, .int 1), (4, .int 1), (3, .int a2), (0, .int a0), (1, .int a1), (2, .int a2)]) hx hb d_m_rest_6 hl (by decide) rfl (fun ls hl => ?_)
  exact B8 2000 a0 a1 a2 1 1 z hF _ _ _ _ _ hW hS (lv_sub hl [3, 4, 2, 1, 0] rfl) (by omega) (by omega)
set_option maxRecDepth 100000 in
set_option maxHeartbeats 4000000 in
theorem c_m_endOf_ok (l : Launch) (hl0 : l.stackTraces = false) {L : Nat → Nat → Nat} {Ar : Nat → ClassId} {D : va_G} {b0 : Nat} (hLi : f_L L b0) (a1 : Int32)  (z : fST) (r : Int32) (z' : fST) (hF : F_m_endOf a1 z = some (r, z')) : f_C l y_m_endOf wt 2 0 L Ar D b0 [.ref (L 30 0), .int a1] z (.inl (some (.int r))) z' := by
  refine f_ofW (cc := c_m_endOf) (maxL := 2) (ret := (some FieldType.int)) (by decide) w_m_endOf (Nat.le_of_ble_eq_true rfl) ?_
  intro p e s m args below meth c R hRf hRl hRc hRs hx hb hr hlk hml hno hts hown hK hZ hsz
  intro H locs ls cells slots hW hS hl hc hs
  have hl : lv_has ls 2 [(0, .ref (L 30 0)), (1, .int a1)] := hl
  unfold F_m_endOf at hF
  refine lv_bipush (v := 98) hx hb d_m_endOf_0 (by decide) ?_
  refine lv_sipush (v := 3700) hx hb d_m_endOf_2 (by decide) ?_
  refine lv_iconst (v := 4) hx hb d_m_endOf_5 (by decide) ?_
  refine lv_aload_n hx hb d_m_endOf_6 rfl (lv_at hl 0 rfl) ?_
  refine hw_get (k := 30) (i := 0) (n := 1) (j := 10) (v := .ref (L 38 0)) hx hb hts hown hK hW fl_m_31 rfl (by omega) rfl d_m_endOf_7 ?_
  refine lv_iload_n hx hb d_m_endOf_10 rfl (lv_at hl 1 rfl) ?_
  obtain ⟨g1, hF⟩ := f_gd_some hF
  refine hw_iald (k := 38) (i := 0) (n := 1) hx hb hK hW (by decide) rfl (by omega) rfl g1 d_m_endOf_11 ?_
  refine lv_bipush (v := 6) hx hb d_m_endOf_12 (by decide) ?_
  refine lv_aload_n hx hb d_m_endOf_14 rfl (lv_at hl 0 rfl) ?_
  refine hw_get (k := 30) (i := 0) (n := 1) (j := 9) (v := .ref (L 37 0)) hx hb hts hown hK hW fl_m_28 rfl (by omega) rfl d_m_endOf_15 ?_
  refine lv_iload_n hx hb d_m_endOf_18 rfl (lv_at hl 1 rfl) ?_
  obtain ⟨g2, hF⟩ := f_gd_some hF
  refine hw_iald (k := 37) (i := 0) (n := 1) hx hb hK hW (by decide) rfl (by omega) rfl g2 d_m_endOf_19 ?_
  refine lv_bipush (v := 6) hx hb d_m_endOf_20 (by decide) ?_
  refine lv_iconst (v := 0) hx hb d_m_endOf_22 (by decide) ?_
  obtain ⟨v3, z3, hc3, hF⟩ := f_bd_some hF
  refine hw_SR (As := [.int (f_gI z 37 0 (f_ix a1)), .int 6, .int 0]) (rest := [.int 6, .int (f_gI z 38 0 (f_ix a1)), .int 4, .int 3700, .int 98]) hx hb hml hown hts (c_m_rest_ok l hl0 hLi (f_gI z 37 0 (f_ix a1)) 6 0  _ _ _ hc3) st_m_151 hK hZ hsz hS hW rfl hl.1 (Nat.le_of_ble_eq_true rfl) d_m_endOf_23 (by omega) (by omega) (by omega) (by omega) (fun H locs hW hS => ?_)
  obtain ⟨v4, z4, hc4, hF⟩ := f_bd_some hF
  refine hw_SR (As := [.int (f_gI z 38 0 (f_ix a1)), .int 6, .int v3]) (rest := [.int 4, .int 3700, .int 98]) hx hb hml hown hts (c_m_rest_ok l hl0 hLi (f_gI z 38 0 (f_ix a1)) 6 v3  _ _ _ hc4) st_m_151 hK hZ hsz hS hW rfl hl.1 (Nat.le_of_ble_eq_true rfl) d_m_endOf_26 (by omega) (by omega) (by omega) (by omega) (fun H locs hW hS => ?_)
  obtain ⟨v5, z5, hc5, hF⟩ := f_bd_some hF
  refine hw_SR (As := [.int 3700, .int 4, .int v4]) (rest := [.int 98]) hx hb hml hown hts (c_m_rest_ok l hl0 hLi 3700 4 v4  _ _ _ hc5) st_m_151 hK hZ hsz hS hW rfl hl.1 (Nat.le_of_ble_eq_true rfl) d_m_endOf_29 (by omega) (by omega) (by omega) (by omega) (fun H locs hW hS => ?_)
  refine lv_isub hx hb d_m_endOf_32 ?_
  exact hw_iret hx hb hr hlk (vp_nar_int _) hW hS (by omega) (by omega) d_m_endOf_33 hF
set_option maxRecDepth 100000 in
set_option maxHeartbeats 4000000 in
theorem c_m_check_ok (l : Launch) (hl0 : l.stackTraces = false) {L : Nat → Nat → Nat} {Ar : Nat → ClassId} {D : va_G} {b0 : Nat} (hLi : f_L L b0) (a1 : Int32) (a2 : Int32)  (z : fST) (r : Int32) (z' : fST) (hF : F_m_check a1 a2 z = some (r, z')) : f_C l y_m_check wt 2 0 L Ar D b0 [.ref (L 30 0), .int a1, .int a2] z (.inl (some (.int r))) z' := by
  refine f_ofW (cc := c_m_check) (maxL := 3) (ret := (some FieldType.boolean)) (by decide) w_m_check (Nat.le_of_ble_eq_true rfl) ?_
  intro p e s m args below meth c R hRf hRl hRc hRs hx hb hr hlk hml hno hts hown hK hZ hsz
  have B26 : ∀  (x1 : Int32) (x2 : Int32) (y1 : Int32) (z : fST), b_m_check_26  x1 x2 y1 z = some (r, z') →  f_B p l e R s m args below meth c L Ar D b0 3 0 (f_E below args s L Ar D b0 0 (.inl (some (.int r))) z') 0 26 [(1, .int x1), (2, .int x2)] [.int y1, .ref (L 30 0)] z := by
    intro  x1 x2 y1 z hF  H locs ls cells slots hW hS hl hc hs
    unfold b_m_check_26 at hF
    refine lv_iconst (v := 1) hx hb d_m_check_26 (by decide) ?_
    obtain ⟨v5, z5, hc5, hF⟩ := f_bd_some hF
    refine hw_VR (k := 30) (i := 0) (nk := 1) (As := [.int y1, .int 1]) (rest := []) hx hb hml hown hts (c_m_fails_ok l hl0 hLi y1 1  _ _ _ hc5) st_m_59 (by decide) rfl (by omega) rfl rfl hK hZ hsz hS hW rfl hl.1 (Nat.le_of_ble_eq_true rfl) d_m_check_27 (by omega) (by omega) (by omega) (by omega) (fun H locs hW hS => ?_)
    refine lv_if_eq (tgt := 35) hx hb d_m_check_30 (by decide) (fun h6 => ?_) (fun h6 => ?_)
    · replace hF := (if_pos h6).symm.trans hF
      refine lv_iload_n hx hb d_m_check_35 rfl (lv_at hl 1 rfl) ?_
      refine lv_bipush (v := 100) hx hb d_m_check_36 (by decide) ?_
      refine lv_idiv hx hb d_m_check_38 (by decide) ?_
      refine lv_bipush (v := 100) hx hb d_m_check_39 (by decide) ?_
      refine lv_irem hx hb d_m_check_41 (by decide) ?_
      refine lv_bipush (v := 37) hx hb d_m_check_42 (by decide) ?_
      refine lv_icmp_ne (tgt := 68) hx hb d_m_check_44 (by decide) (fun h7 => ?_) (fun h7 => ?_)
      · replace hF := (if_neg h7).symm.trans hF
        refine lv_iconst (v := 0) hx hb d_m_check_68 (by decide) ?_
        exact hw_iret hx hb hr hlk (f_nZ (Or.inl rfl)) hW hS (by omega) (by omega) d_m_check_69 hF
      · replace hF := (if_pos h7).symm.trans hF
        refine lv_iload_n hx hb d_m_check_47 rfl (lv_at hl 1 rfl) ?_
        refine lv_bipush (v := 8) hx hb d_m_check_48 (by decide) ?_
        refine lv_iload_n hx hb d_m_check_50 rfl (lv_at hl 0 rfl) ?_
        refine lv_bipush (v := 8) hx hb d_m_check_51 (by decide) ?_
        refine lv_iconst (v := 0) hx hb d_m_check_53 (by decide) ?_
        obtain ⟨v8, z8, hc8, hF⟩ := f_bd_some hF
        refine hw_SR (As := [.int x1, .int 8, .int 0]) (rest := [.int 8, .int x2]) hx hb hml hown hts (c_m_rest_ok l hl0 hLi x1 8 0  _ _ _ hc8) st_m_151 hK hZ hsz hS hW rfl hl.1 (Nat.le_of_ble_eq_true rfl) d_m_check_54 (by omega) (by omega) (by omega) (by omega) (fun H locs hW hS => ?_)
        obtain ⟨v9, z9, hc9, hF⟩ := f_bd_some hF
        refine hw_SR (As := [.int x2, .int 8, .int v8]) (rest := []) hx hb hml hown hts (c_m_rest_ok l hl0 hLi x2 8 v8  _ _ _ hc9) st_m_151 hK hZ hsz hS hW rfl hl.1 (Nat.le_of_ble_eq_true rfl) d_m_check_57 (by omega) (by omega) (by omega) (by omega) (fun H locs hW hS => ?_)
        refine lv_iconst (v := 1) hx hb d_m_check_60 (by decide) ?_
        refine lv_icmp_ne (tgt := 68) hx hb d_m_check_61 (by decide) (fun h10 => ?_) (fun h10 => ?_)
        · replace hF := (if_neg h10).symm.trans hF
          refine lv_iconst (v := 0) hx hb d_m_check_68 (by decide) ?_
          exact hw_iret hx hb hr hlk (f_nZ (Or.inl rfl)) hW hS (by omega) (by omega) d_m_check_69 hF
        · replace hF := (if_pos h10).symm.trans hF
          refine lv_iconst (v := 1) hx hb d_m_check_64 (by decide) ?_
          refine lv_goto (tgt := 69) hx hb d_m_check_65 (by decide) ?_
          exact hw_iret hx hb hr hlk (f_nZ (Or.inr rfl)) hW hS (by omega) (by omega) d_m_check_69 hF
    · replace hF := (if_neg h6).symm.trans hF
      refine lv_iconst (v := 0) hx hb d_m_check_33 (by decide) ?_
      exact hw_iret hx hb hr hlk (f_nZ (Or.inl rfl)) hW hS (by omega) (by omega) d_m_check_34 hF
  have B21 : ∀  (x1 : Int32) (x2 : Int32) (z : fST), b_m_check_21  x1 x2 z = some (r, z') →  f_B p l e R s m args below meth c L Ar D b0 3 0 (f_E below args s L Ar D b0 0 (.inl (some (.int r))) z') 0 21 [(1, .int x1), (2, .int x2)] [.ref (L 30 0)] z := by
    intro  x1 x2 z hF  H locs ls cells slots hW hS hl hc hs
    unfold b_m_check_21 at hF
    refine lv_iconst (v := 1) hx hb d_m_check_21 (by decide) ?_
    refine lv_goto (tgt := 26) hx hb d_m_check_22 (by decide) ?_
    exact B26 x1 x2 1 z hF _ _ _ _ _ hW hS (lv_sub hl [0, 1] rfl) (by omega) (by omega)
  intro H locs ls cells slots hW hS hl hc hs
  have hl : lv_has ls 3 [(0, .ref (L 30 0)), (1, .int a1), (2, .int a2)] := hl
  unfold F_m_check at hF
  refine lv_aload_n hx hb d_m_check_0 rfl (lv_at hl 0 rfl) ?_
  refine lv_iload_n hx hb d_m_check_1 rfl (lv_at hl 1 rfl) ?_
  refine lv_iconst (v := 0) hx hb d_m_check_2 (by decide) ?_
  refine lv_ldc (v := 99999999) hx hb hown (hts _ (wt_in (List.mem_of_getElem? (i := 936) (by decide +kernel)) rfl)) d_m_check_3 ?_
  obtain ⟨v1, z1, hc1, hF⟩ := f_bd_some hF
  refine hw_SR (As := [.int a1, .int 0, .int 99999999]) (rest := [.ref (L 30 0)]) hx hb hml hown hts (c_m_within_ok l hl0 hLi a1 0 99999999  _ _ _ hc1) st_m_63 hK hZ hsz hS hW rfl hl.1 (Nat.le_of_ble_eq_true rfl) d_m_check_5 (by omega) (by omega) (by omega) (by omega) (fun H locs hW hS => ?_)
  refine lv_if_eq (tgt := 21) hx hb d_m_check_8 (by decide) (fun h2 => ?_) (fun h2 => ?_)
  · replace hF := (if_pos h2).symm.trans hF
    exact B21 a1 a2 z1 hF _ _ _ _ _ hW hS (lv_sub hl [1, 2] rfl) (by omega) (by omega)
  · replace hF := (if_neg h2).symm.trans hF
    refine lv_iload_n hx hb d_m_check_11 rfl (lv_at hl 2 rfl) ?_
    refine lv_iconst (v := 0) hx hb d_m_check_12 (by decide) ?_
    refine lv_ldc (v := 99999999) hx hb hown (hts _ (wt_in (List.mem_of_getElem? (i := 936) (by decide +kernel)) rfl)) d_m_check_13 ?_
    obtain ⟨v3, z3, hc3, hF⟩ := f_bd_some hF
    refine hw_SR (As := [.int a2, .int 0, .int 99999999]) (rest := [.ref (L 30 0)]) hx hb hml hown hts (c_m_within_ok l hl0 hLi a2 0 99999999  _ _ _ hc3) st_m_63 hK hZ hsz hS hW rfl hl.1 (Nat.le_of_ble_eq_true rfl) d_m_check_15 (by omega) (by omega) (by omega) (by omega) (fun H locs hW hS => ?_)
    refine lv_if_ne (tgt := 25) hx hb d_m_check_18 (by decide) (fun h4 => ?_) (fun h4 => ?_)
    · replace hF := (if_neg h4).symm.trans hF
      refine lv_iconst (v := 0) hx hb d_m_check_25 (by decide) ?_
      exact B26 a1 a2 0 z3 hF _ _ _ _ _ hW hS (lv_sub hl [1, 2] rfl) (by omega) (by omega)
    · replace hF := (if_pos h4).symm.trans hF
      exact B21 a1 a2 z3 hF _ _ _ _ _ hW hS (lv_sub hl [1, 2] rfl) (by omega) (by omega)
set_option maxRecDepth 100000 in
set_option maxHeartbeats 4000000 in
theorem c_m_about_ok (l : Launch) (hl0 : l.stackTraces = false) {L : Nat → Nat → Nat} {Ar : Nat → ClassId} {D : va_G} {b0 : Nat} (hLi : f_L L b0) (a1 : Int32) (a2 : Int32)  (z : fST) (r : Int32) (z' : fST) (hF : F_m_about a1 a2 z = some (r, z')) : f_C l y_m_about wt 3 0 L Ar D b0 [.ref (L 30 0), .int a1, .int a2] z (.inl (some (.int r))) z' := by
  refine f_ofW (cc := c_m_about) (maxL := 4) (ret := (some FieldType.int)) (by decide) w_m_about (Nat.le_of_ble_eq_true rfl) ?_
  intro p e s m args below meth c R hRf hRl hRc hRs hx hb hr hlk hml hno hts hown hK hZ hsz
  have B26 : ∀  (x2 : Int32) (x3 : Int32) (y1 : Int32) (z : fST), b_m_about_26  x2 x3 y1 z = some (r, z') →  f_B p l e R s m args below meth c L Ar D b0 4 0 (f_E below args s L Ar D b0 0 (.inl (some (.int r))) z') 0 26 [(0, .ref (L 30 0)), (2, .int x2), (3, .int x3)] [.int y1, .ref (L 30 0)] z := by
    intro  x2 x3 y1 z hF  H locs ls cells slots hW hS hl hc hs
    unfold b_m_about_26 at hF
    refine lv_iconst (v := 1) hx hb d_m_about_26 (by decide) ?_
    obtain ⟨v5, z5, hc5, hF⟩ := f_bd_some hF
    refine hw_VR (k := 30) (i := 0) (nk := 1) (As := [.int y1, .int 1]) (rest := []) hx hb hml hown hts (c_m_fails_ok l hl0 hLi y1 1  _ _ _ hc5) st_m_59 (by decide) rfl (by omega) rfl rfl hK hZ hsz hS hW rfl hl.1 (Nat.le_of_ble_eq_true rfl) d_m_about_27 (by omega) (by omega) (by omega) (by omega) (fun H locs hW hS => ?_)
    refine lv_if_eq (tgt := 35) hx hb d_m_about_30 (by decide) (fun h6 => ?_) (fun h6 => ?_)
    · replace hF := (if_pos h6).symm.trans hF
      refine lv_iload_n hx hb d_m_about_35 rfl (lv_at hl 1 rfl) ?_
      refine lv_topi (fun w7 e8 => ?_)
      rw [← e8] at hF
      by_cases h9 : w7 = 0
      · replace hF := (if_pos h9).symm.trans hF
        subst h9
        refine lv_tableIn (tgt := 64) hx hb d_m_about_36 (by decide) (by decide) rfl (by decide) ?_
        refine lv_aload_n hx hb d_m_about_64 rfl (lv_at hl 0 rfl) ?_
        refine hw_get (k := 30) (i := 0) (n := 1) (j := 10) (v := .ref (L 38 0)) hx hb hts hown hK hW fl_m_31 rfl (by omega) rfl d_m_about_65 ?_
        refine lv_iload_n hx hb d_m_about_68 rfl (lv_at hl 2 rfl) ?_
        obtain ⟨g10, hF⟩ := f_gd_some hF
        refine hw_iald (k := 38) (i := 0) (n := 1) hx hb hK hW (by decide) rfl (by omega) rfl g10 d_m_about_69 ?_
        exact hw_iret hx hb hr hlk (vp_nar_int _) hW hS (by omega) (by omega) d_m_about_70 hF
      replace hF := (if_neg h9).symm.trans hF
      by_cases h11 : w7 = 1
      · replace hF := (if_pos h11).symm.trans hF
        subst h11
        refine lv_tableIn (tgt := 71) hx hb d_m_about_36 (by decide) (by decide) rfl (by decide) ?_
        refine lv_bipush (v := 100) hx hb d_m_about_71 (by decide) ?_
        refine lv_aload_n hx hb d_m_about_73 rfl (lv_at hl 0 rfl) ?_
        refine hw_get (k := 30) (i := 0) (n := 1) (j := 9) (v := .ref (L 37 0)) hx hb hts hown hK hW fl_m_28 rfl (by omega) rfl d_m_about_74 ?_
        refine lv_iload_n hx hb d_m_about_77 rfl (lv_at hl 2 rfl) ?_
        obtain ⟨g12, hF⟩ := f_gd_some hF
        refine hw_iald (k := 37) (i := 0) (n := 1) hx hb hK hW (by decide) rfl (by omega) rfl g12 d_m_about_78 ?_
        refine lv_imul hx hb d_m_about_79 ?_
        refine lv_aload_n hx hb d_m_about_80 rfl (lv_at hl 0 rfl) ?_
        refine hw_get (k := 30) (i := 0) (n := 1) (j := 10) (v := .ref (L 38 0)) hx hb hts hown hK hW fl_m_31 rfl (by omega) rfl d_m_about_81 ?_
        refine lv_iload_n hx hb d_m_about_84 rfl (lv_at hl 2 rfl) ?_
        obtain ⟨g13, hF⟩ := f_gd_some hF
        refine hw_iald (k := 38) (i := 0) (n := 1) hx hb hK hW (by decide) rfl (by omega) rfl g13 d_m_about_85 ?_
        refine lv_sipush (v := 10000) hx hb d_m_about_86 (by decide) ?_
        refine lv_idiv hx hb d_m_about_89 (by decide) ?_
        refine lv_iadd hx hb d_m_about_90 ?_
        exact hw_iret hx hb hr hlk (vp_nar_int _) hW hS (by omega) (by omega) d_m_about_91 hF
      replace hF := (if_neg h11).symm.trans hF
      by_cases h14 : w7 = 2
      · replace hF := (if_pos h14).symm.trans hF
        subst h14
        refine lv_tableIn (tgt := 92) hx hb d_m_about_36 (by decide) (by decide) rfl (by decide) ?_
        refine lv_aload_n hx hb d_m_about_92 rfl (lv_at hl 0 rfl) ?_
        refine hw_get (k := 30) (i := 0) (n := 1) (j := 10) (v := .ref (L 38 0)) hx hb hts hown hK hW fl_m_31 rfl (by omega) rfl d_m_about_93 ?_
        refine lv_iload_n hx hb d_m_about_96 rfl (lv_at hl 2 rfl) ?_
        obtain ⟨g15, hF⟩ := f_gd_some hF
        refine hw_iald (k := 38) (i := 0) (n := 1) hx hb hK hW (by decide) rfl (by omega) rfl g15 d_m_about_97 ?_
        refine lv_sipush (v := 10000) hx hb d_m_about_98 (by decide) ?_
        refine lv_irem hx hb d_m_about_101 (by decide) ?_
        refine lv_sipush (v := 10000) hx hb d_m_about_102 (by decide) ?_
        refine lv_imul hx hb d_m_about_105 ?_
        refine lv_sipush (v := 3700) hx hb d_m_about_106 (by decide) ?_
        refine lv_iadd hx hb d_m_about_109 ?_
        refine lv_aload_n hx hb d_m_about_110 rfl (lv_at hl 0 rfl) ?_
        refine lv_iload_n hx hb d_m_about_111 rfl (lv_at hl 2 rfl) ?_
        obtain ⟨v16, z16, hc16, hF⟩ := f_bd_some hF
        refine hw_VR (k := 30) (i := 0) (nk := 1) (As := [.int x3]) (rest := [.int ((((f_gI z5 38 0 (f_ix x3)) - (f_gI z5 38 0 (f_ix x3)) / 10000 * 10000) * 10000) + 3700)]) hx hb hml hown hts (c_m_endOf_ok l hl0 hLi x3  _ _ _ hc16) st_m_156 (by decide) rfl (by omega) rfl rfl hK hZ hsz hS hW rfl hl.1 (Nat.le_of_ble_eq_true rfl) d_m_about_112 (by omega) (by omega) (by omega) (by omega) (fun H locs hW hS => ?_)
        refine lv_iadd hx hb d_m_about_115 ?_
        exact hw_iret hx hb hr hlk (vp_nar_int _) hW hS (by omega) (by omega) d_m_about_116 hF
      replace hF := (if_neg h14).symm.trans hF
      refine f_swd (x := w7) (hi := 2) (tgt := 117) hx hb d_m_about_36 (by decide) (fun k hk => by rcases (show k = 0 ∨ k = 1 ∨ k = 2 by omega) with rfl | rfl | rfl <;> first | exact Or.inr rfl | exact Or.inl h9 | exact Or.inl h11 | exact Or.inl h14) (by decide) ?_
      refine lv_aload_n hx hb d_m_about_117 rfl (lv_at hl 0 rfl) ?_
      refine hw_get (k := 30) (i := 0) (n := 1) (j := 11) (v := .ref (L 39 0)) hx hb hts hown hK hW fl_m_34 rfl (by omega) rfl d_m_about_118 ?_
      refine lv_iload_n hx hb d_m_about_121 rfl (lv_at hl 2 rfl) ?_
      obtain ⟨g17, hF⟩ := f_gd_some hF
      refine hw_zald (k := 39) (i := 0) (n := 1) hx hb hK hW (by decide) rfl (by omega) rfl g17 d_m_about_122 ?_
      refine lv_if_eq (tgt := 130) hx hb d_m_about_123 (by decide) (fun h18 => ?_) (fun h18 => ?_)
      · replace hF := (if_pos h18).symm.trans hF
        refine lv_iconst (v := 0) hx hb d_m_about_130 (by decide) ?_
        exact hw_iret hx hb hr hlk (vp_nar_int _) hW hS (by omega) (by omega) d_m_about_131 hF
      · replace hF := (if_neg h18).symm.trans hF
        refine lv_iconst (v := 1) hx hb d_m_about_126 (by decide) ?_
        refine lv_goto (tgt := 131) hx hb d_m_about_127 (by decide) ?_
        exact hw_iret hx hb hr hlk (vp_nar_int _) hW hS (by omega) (by omega) d_m_about_131 hF
    · replace hF := (if_neg h6).symm.trans hF
      refine lv_iconst (v := 0) hx hb d_m_about_33 (by decide) ?_
      exact hw_iret hx hb hr hlk (vp_nar_int _) hW hS (by omega) (by omega) d_m_about_34 hF
  have B21 : ∀  (x2 : Int32) (x3 : Int32) (z : fST), b_m_about_21  x2 x3 z = some (r, z') →  f_B p l e R s m args below meth c L Ar D b0 4 0 (f_E below args s L Ar D b0 0 (.inl (some (.int r))) z') 0 21 [(0, .ref (L 30 0)), (2, .int x2), (3, .int x3)] [.ref (L 30 0)] z := by
    intro  x2 x3 z hF  H locs ls cells slots hW hS hl hc hs
    unfold b_m_about_21 at hF
    refine lv_iconst (v := 1) hx hb d_m_about_21 (by decide) ?_
    refine lv_goto (tgt := 26) hx hb d_m_about_22 (by decide) ?_
    exact B26 x2 x3 1 z hF _ _ _ _ _ hW hS (lv_sub hl [0, 1, 2] rfl) (by omega) (by omega)
  intro H locs ls cells slots hW hS hl hc hs
  have hl : lv_has ls 4 [(0, .ref (L 30 0)), (1, .int a1), (2, .int a2)] := hl
  unfold F_m_about at hF
  refine lv_aload_n hx hb d_m_about_0 rfl (lv_at hl 0 rfl) ?_
  refine lv_iload_n hx hb d_m_about_1 rfl (lv_at hl 1 rfl) ?_
  obtain ⟨v1, z1, hc1, hF⟩ := f_bd_some hF
  refine hw_VR (k := 30) (i := 0) (nk := 1) (As := [.int a1]) (rest := []) hx hb hml hown hts (c_m_voucherAt_ok l hl0 hLi a1  _ _ _ hc1) st_m_148 (by decide) rfl (by omega) rfl rfl hK hZ hsz hS hW rfl hl.1 (Nat.le_of_ble_eq_true rfl) d_m_about_2 (by omega) (by omega) (by omega) (by omega) (fun H locs hW hS => ?_)
  refine lv_istore_n (lv' := [(3, .int v1), (0, .ref (L 30 0)), (1, .int a1), (2, .int a2)]) hx hb d_m_about_5 rfl hl (by decide) rfl (fun ls hl => ?_)
  refine lv_aload_n hx hb d_m_about_6 rfl (lv_at hl 1 rfl) ?_
  refine lv_iload_n hx hb d_m_about_7 rfl (lv_at hl 0 rfl) ?_
  refine lv_iconst (v := (-1)) hx hb d_m_about_8 (by decide) ?_
  refine lv_icmp_eq (tgt := 21) hx hb d_m_about_9 (by decide) (fun h2 => ?_) (fun h2 => ?_)
  · replace hF := (if_pos h2).symm.trans hF
    exact B21 a2 v1 z1 hF _ _ _ _ _ hW hS (lv_sub hl [1, 3, 0] rfl) (by omega) (by omega)
  · replace hF := (if_neg h2).symm.trans hF
    refine lv_iload_n hx hb d_m_about_12 rfl (lv_at hl 3 rfl) ?_
    refine lv_iconst (v := 0) hx hb d_m_about_13 (by decide) ?_
    refine lv_iconst (v := 3) hx hb d_m_about_14 (by decide) ?_
    obtain ⟨v3, z3, hc3, hF⟩ := f_bd_some hF
    refine hw_SR (As := [.int a2, .int 0, .int 3]) (rest := [.ref (L 30 0)]) hx hb hml hown hts (c_m_within_ok l hl0 hLi a2 0 3  _ _ _ hc3) st_m_63 hK hZ hsz hS hW rfl hl.1 (Nat.le_of_ble_eq_true rfl) d_m_about_15 (by omega) (by omega) (by omega) (by omega) (fun H locs hW hS => ?_)
    refine lv_if_ne (tgt := 25) hx hb d_m_about_18 (by decide) (fun h4 => ?_) (fun h4 => ?_)
    · replace hF := (if_neg h4).symm.trans hF
      refine lv_iconst (v := 0) hx hb d_m_about_25 (by decide) ?_
      exact B26 a2 v1 0 z3 hF _ _ _ _ _ hW hS (lv_sub hl [1, 3, 0] rfl) (by omega) (by omega)
    · replace hF := (if_pos h4).symm.trans hF
      exact B21 a2 v1 z3 hF _ _ _ _ _ hW hS (lv_sub hl [1, 3, 0] rfl) (by omega) (by omega)
set_option maxRecDepth 100000 in
set_option maxHeartbeats 4000000 in
theorem c_m_container_ok (l : Launch) (hl0 : l.stackTraces = false) {L : Nat → Nat → Nat} {Ar : Nat → ClassId} {D : va_G} {b0 : Nat} (hLi : f_L L b0) (a1 : Int32) (a2 : Int32)  (z : fST) (r : Int32) (z' : fST) (hF : F_m_container a1 a2 z = some (r, z')) : f_C l y_m_container wt 3 0 L Ar D b0 [.ref (L 30 0), .int a1, .int a2] z (.inl (some (.int r))) z' := by
  refine f_ofW (cc := c_m_container) (maxL := 4) (ret := (some FieldType.int)) (by decide) w_m_container (Nat.le_of_ble_eq_true rfl) ?_
  intro p e s m args below meth c R hRf hRl hRc hRs hx hb hr hlk hml hno hts hown hK hZ hsz
  have B27 : ∀  (x2 : Int32) (x3 : Int32) (y1 : Int32) (z : fST), b_m_container_27  x2 x3 y1 z = some (r, z') →  f_B p l e R s m args below meth c L Ar D b0 4 0 (f_E below args s L Ar D b0 0 (.inl (some (.int r))) z') 0 27 [(0, .ref (L 30 0)), (2, .int x2), (3, .int x3)] [.int y1, .ref (L 30 0)] z := by
    intro  x2 x3 y1 z hF  H locs ls cells slots hW hS hl hc hs
    unfold b_m_container_27 at hF
    refine lv_iconst (v := 1) hx hb d_m_container_27 (by decide) ?_
    obtain ⟨v5, z5, hc5, hF⟩ := f_bd_some hF
    refine hw_VR (k := 30) (i := 0) (nk := 1) (As := [.int y1, .int 1]) (rest := []) hx hb hml hown hts (c_m_fails_ok l hl0 hLi y1 1  _ _ _ hc5) st_m_59 (by decide) rfl (by omega) rfl rfl hK hZ hsz hS hW rfl hl.1 (Nat.le_of_ble_eq_true rfl) d_m_container_28 (by omega) (by omega) (by omega) (by omega) (fun H locs hW hS => ?_)
    refine lv_if_eq (tgt := 36) hx hb d_m_container_31 (by decide) (fun h6 => ?_) (fun h6 => ?_)
    · replace hF := (if_pos h6).symm.trans hF
      refine lv_iload_n hx hb d_m_container_36 rfl (lv_at hl 1 rfl) ?_
      refine lv_topi (fun w7 e8 => ?_)
      rw [← e8] at hF
      by_cases h9 : w7 = 0
      · replace hF := (if_pos h9).symm.trans hF
        subst h9
        refine lv_tableIn (tgt := 76) hx hb d_m_container_37 (by decide) (by decide) rfl (by decide) ?_
        refine lv_aload_n hx hb d_m_container_76 rfl (lv_at hl 0 rfl) ?_
        refine lv_iload_n hx hb d_m_container_77 rfl (lv_at hl 2 rfl) ?_
        refine lv_iconst (v := 2) hx hb d_m_container_78 (by decide) ?_
        obtain ⟨v10, z10, hc10, hF⟩ := f_bd_some hF
        refine hw_VR (k := 30) (i := 0) (nk := 1) (As := [.int x3, .int 2]) (rest := []) hx hb hml hown hts (c_m_get_ok l hl0 hLi x3 2  _ _ _ hc10) st_m_48 (by decide) rfl (by omega) rfl rfl hK hZ hsz hS hW rfl hl.1 (Nat.le_of_ble_eq_true rfl) d_m_container_79 (by omega) (by omega) (by omega) (by omega) (fun H locs hW hS => ?_)
        exact hw_iret hx hb hr hlk (vp_nar_int _) hW hS (by omega) (by omega) d_m_container_82 hF
      replace hF := (if_neg h9).symm.trans hF
      by_cases h11 : w7 = 1
      · replace hF := (if_pos h11).symm.trans hF
        subst h11
        refine lv_tableIn (tgt := 83) hx hb d_m_container_37 (by decide) (by decide) rfl (by decide) ?_
        refine lv_aload_n hx hb d_m_container_83 rfl (lv_at hl 0 rfl) ?_
        refine lv_iload_n hx hb d_m_container_84 rfl (lv_at hl 2 rfl) ?_
        refine lv_iconst (v := 1) hx hb d_m_container_85 (by decide) ?_
        obtain ⟨v12, z12, hc12, hF⟩ := f_bd_some hF
        refine hw_VR (k := 30) (i := 0) (nk := 1) (As := [.int x3, .int 1]) (rest := []) hx hb hml hown hts (c_m_get_ok l hl0 hLi x3 1  _ _ _ hc12) st_m_48 (by decide) rfl (by omega) rfl rfl hK hZ hsz hS hW rfl hl.1 (Nat.le_of_ble_eq_true rfl) d_m_container_86 (by omega) (by omega) (by omega) (by omega) (fun H locs hW hS => ?_)
        exact hw_iret hx hb hr hlk (vp_nar_int _) hW hS (by omega) (by omega) d_m_container_89 hF
      replace hF := (if_neg h11).symm.trans hF
      by_cases h13 : w7 = 2
      · replace hF := (if_pos h13).symm.trans hF
        subst h13
        refine lv_tableIn (tgt := 90) hx hb d_m_container_37 (by decide) (by decide) rfl (by decide) ?_
        refine lv_aload_n hx hb d_m_container_90 rfl (lv_at hl 0 rfl) ?_
        refine lv_iload_n hx hb d_m_container_91 rfl (lv_at hl 2 rfl) ?_
        refine lv_iconst (v := 3) hx hb d_m_container_92 (by decide) ?_
        obtain ⟨v14, z14, hc14, hF⟩ := f_bd_some hF
        refine hw_VR (k := 30) (i := 0) (nk := 1) (As := [.int x3, .int 3]) (rest := []) hx hb hml hown hts (c_m_get_ok l hl0 hLi x3 3  _ _ _ hc14) st_m_48 (by decide) rfl (by omega) rfl rfl hK hZ hsz hS hW rfl hl.1 (Nat.le_of_ble_eq_true rfl) d_m_container_93 (by omega) (by omega) (by omega) (by omega) (fun H locs hW hS => ?_)
        exact hw_iret hx hb hr hlk (vp_nar_int _) hW hS (by omega) (by omega) d_m_container_96 hF
      replace hF := (if_neg h13).symm.trans hF
      by_cases h15 : w7 = 3
      · replace hF := (if_pos h15).symm.trans hF
        subst h15
        refine lv_tableIn (tgt := 97) hx hb d_m_container_37 (by decide) (by decide) rfl (by decide) ?_
        refine lv_aload_n hx hb d_m_container_97 rfl (lv_at hl 0 rfl) ?_
        refine lv_iload_n hx hb d_m_container_98 rfl (lv_at hl 2 rfl) ?_
        refine lv_iconst (v := 4) hx hb d_m_container_99 (by decide) ?_
        obtain ⟨v16, z16, hc16, hF⟩ := f_bd_some hF
        refine hw_VR (k := 30) (i := 0) (nk := 1) (As := [.int x3, .int 4]) (rest := []) hx hb hml hown hts (c_m_get_ok l hl0 hLi x3 4  _ _ _ hc16) st_m_48 (by decide) rfl (by omega) rfl rfl hK hZ hsz hS hW rfl hl.1 (Nat.le_of_ble_eq_true rfl) d_m_container_100 (by omega) (by omega) (by omega) (by omega) (fun H locs hW hS => ?_)
        exact hw_iret hx hb hr hlk (vp_nar_int _) hW hS (by omega) (by omega) d_m_container_103 hF
      replace hF := (if_neg h15).symm.trans hF
      by_cases h17 : w7 = 4
      · replace hF := (if_pos h17).symm.trans hF
        subst h17
        refine lv_tableIn (tgt := 104) hx hb d_m_container_37 (by decide) (by decide) rfl (by decide) ?_
        refine lv_aload_n hx hb d_m_container_104 rfl (lv_at hl 0 rfl) ?_
        refine lv_iload_n hx hb d_m_container_105 rfl (lv_at hl 2 rfl) ?_
        refine lv_iconst (v := 5) hx hb d_m_container_106 (by decide) ?_
        obtain ⟨v18, z18, hc18, hF⟩ := f_bd_some hF
        refine hw_VR (k := 30) (i := 0) (nk := 1) (As := [.int x3, .int 5]) (rest := []) hx hb hml hown hts (c_m_get_ok l hl0 hLi x3 5  _ _ _ hc18) st_m_48 (by decide) rfl (by omega) rfl rfl hK hZ hsz hS hW rfl hl.1 (Nat.le_of_ble_eq_true rfl) d_m_container_107 (by omega) (by omega) (by omega) (by omega) (fun H locs hW hS => ?_)
        exact hw_iret hx hb hr hlk (vp_nar_int _) hW hS (by omega) (by omega) d_m_container_110 hF
      replace hF := (if_neg h17).symm.trans hF
      by_cases h19 : w7 = 5
      · replace hF := (if_pos h19).symm.trans hF
        subst h19
        refine lv_tableIn (tgt := 111) hx hb d_m_container_37 (by decide) (by decide) rfl (by decide) ?_
        refine lv_aload_n hx hb d_m_container_111 rfl (lv_at hl 0 rfl) ?_
        refine lv_iload_n hx hb d_m_container_112 rfl (lv_at hl 2 rfl) ?_
        refine lv_bipush (v := 7) hx hb d_m_container_113 (by decide) ?_
        obtain ⟨v20, z20, hc20, hF⟩ := f_bd_some hF
        refine hw_VR (k := 30) (i := 0) (nk := 1) (As := [.int x3, .int 7]) (rest := []) hx hb hml hown hts (c_m_get_ok l hl0 hLi x3 7  _ _ _ hc20) st_m_48 (by decide) rfl (by omega) rfl rfl hK hZ hsz hS hW rfl hl.1 (Nat.le_of_ble_eq_true rfl) d_m_container_115 (by omega) (by omega) (by omega) (by omega) (fun H locs hW hS => ?_)
        exact hw_iret hx hb hr hlk (vp_nar_int _) hW hS (by omega) (by omega) d_m_container_118 hF
      replace hF := (if_neg h19).symm.trans hF
      refine f_swd (x := w7) (hi := 5) (tgt := 119) hx hb d_m_container_37 (by decide) (fun k hk => by rcases (show k = 0 ∨ k = 1 ∨ k = 2 ∨ k = 3 ∨ k = 4 ∨ k = 5 by omega) with rfl | rfl | rfl | rfl | rfl | rfl <;> first | exact Or.inr rfl | exact Or.inl h9 | exact Or.inl h11 | exact Or.inl h13 | exact Or.inl h15 | exact Or.inl h17 | exact Or.inl h19) (by decide) ?_
      refine lv_aload_n hx hb d_m_container_119 rfl (lv_at hl 0 rfl) ?_
      refine lv_iload_n hx hb d_m_container_120 rfl (lv_at hl 2 rfl) ?_
      refine lv_bipush (v := 8) hx hb d_m_container_121 (by decide) ?_
      obtain ⟨v21, z21, hc21, hF⟩ := f_bd_some hF
      refine hw_VR (k := 30) (i := 0) (nk := 1) (As := [.int x3, .int 8]) (rest := []) hx hb hml hown hts (c_m_get_ok l hl0 hLi x3 8  _ _ _ hc21) st_m_48 (by decide) rfl (by omega) rfl rfl hK hZ hsz hS hW rfl hl.1 (Nat.le_of_ble_eq_true rfl) d_m_container_123 (by omega) (by omega) (by omega) (by omega) (fun H locs hW hS => ?_)
      exact hw_iret hx hb hr hlk (vp_nar_int _) hW hS (by omega) (by omega) d_m_container_126 hF
    · replace hF := (if_neg h6).symm.trans hF
      refine lv_iconst (v := 0) hx hb d_m_container_34 (by decide) ?_
      exact hw_iret hx hb hr hlk (vp_nar_int _) hW hS (by omega) (by omega) d_m_container_35 hF
  have B22 : ∀  (x2 : Int32) (x3 : Int32) (z : fST), b_m_container_22  x2 x3 z = some (r, z') →  f_B p l e R s m args below meth c L Ar D b0 4 0 (f_E below args s L Ar D b0 0 (.inl (some (.int r))) z') 0 22 [(0, .ref (L 30 0)), (2, .int x2), (3, .int x3)] [.ref (L 30 0)] z := by
    intro  x2 x3 z hF  H locs ls cells slots hW hS hl hc hs
    unfold b_m_container_22 at hF
    refine lv_iconst (v := 1) hx hb d_m_container_22 (by decide) ?_
    refine lv_goto (tgt := 27) hx hb d_m_container_23 (by decide) ?_
    exact B27 x2 x3 1 z hF _ _ _ _ _ hW hS (lv_sub hl [0, 1, 2] rfl) (by omega) (by omega)
  intro H locs ls cells slots hW hS hl hc hs
  have hl : lv_has ls 4 [(0, .ref (L 30 0)), (1, .int a1), (2, .int a2)] := hl
  unfold F_m_container at hF
  refine lv_aload_n hx hb d_m_container_0 rfl (lv_at hl 0 rfl) ?_
  refine lv_iload_n hx hb d_m_container_1 rfl (lv_at hl 1 rfl) ?_
  obtain ⟨v1, z1, hc1, hF⟩ := f_bd_some hF
  refine hw_VR (k := 30) (i := 0) (nk := 1) (As := [.int a1]) (rest := []) hx hb hml hown hts (c_m_find_ok l hl0 hLi a1  _ _ _ hc1) st_m_159 (by decide) rfl (by omega) rfl rfl hK hZ hsz hS hW rfl hl.1 (Nat.le_of_ble_eq_true rfl) d_m_container_2 (by omega) (by omega) (by omega) (by omega) (fun H locs hW hS => ?_)
  refine lv_istore_n (lv' := [(3, .int v1), (0, .ref (L 30 0)), (1, .int a1), (2, .int a2)]) hx hb d_m_container_5 rfl hl (by decide) rfl (fun ls hl => ?_)
  refine lv_aload_n hx hb d_m_container_6 rfl (lv_at hl 1 rfl) ?_
  refine lv_iload_n hx hb d_m_container_7 rfl (lv_at hl 0 rfl) ?_
  refine lv_iconst (v := (-1)) hx hb d_m_container_8 (by decide) ?_
  refine lv_icmp_eq (tgt := 22) hx hb d_m_container_9 (by decide) (fun h2 => ?_) (fun h2 => ?_)
  · replace hF := (if_pos h2).symm.trans hF
    exact B22 a2 v1 z1 hF _ _ _ _ _ hW hS (lv_sub hl [1, 3, 0] rfl) (by omega) (by omega)
  · replace hF := (if_neg h2).symm.trans hF
    refine lv_iload_n hx hb d_m_container_12 rfl (lv_at hl 3 rfl) ?_
    refine lv_iconst (v := 0) hx hb d_m_container_13 (by decide) ?_
    refine lv_bipush (v := 6) hx hb d_m_container_14 (by decide) ?_
    obtain ⟨v3, z3, hc3, hF⟩ := f_bd_some hF
    refine hw_SR (As := [.int a2, .int 0, .int 6]) (rest := [.ref (L 30 0)]) hx hb hml hown hts (c_m_within_ok l hl0 hLi a2 0 6  _ _ _ hc3) st_m_63 hK hZ hsz hS hW rfl hl.1 (Nat.le_of_ble_eq_true rfl) d_m_container_16 (by omega) (by omega) (by omega) (by omega) (fun H locs hW hS => ?_)
    refine lv_if_ne (tgt := 26) hx hb d_m_container_19 (by decide) (fun h4 => ?_) (fun h4 => ?_)
    · replace hF := (if_neg h4).symm.trans hF
      refine lv_iconst (v := 0) hx hb d_m_container_26 (by decide) ?_
      exact B27 a2 v1 0 z3 hF _ _ _ _ _ hW hS (lv_sub hl [1, 3, 0] rfl) (by omega) (by omega)
    · replace hF := (if_pos h4).symm.trans hF
      exact B22 a2 v1 z3 hF _ _ _ _ _ hW hS (lv_sub hl [1, 3, 0] rfl) (by omega) (by omega)
set_option maxRecDepth 100000 in
set_option maxHeartbeats 4000000 in
theorem c_m_belt_ok (l : Launch) (hl0 : l.stackTraces = false) {L : Nat → Nat → Nat} {Ar : Nat → ClassId} {D : va_G} {b0 : Nat} (hLi : f_L L b0) (a1 : Int32)  (z : fST) (r : Int32) (z' : fST) (hF : F_m_belt a1 z = some (r, z')) : f_C l y_m_belt wt 2 0 L Ar D b0 [.ref (L 30 0), .int a1] z (.inl (some (.int r))) z' := by
  refine f_ofW (cc := c_m_belt) (maxL := 2) (ret := (some FieldType.int)) (by decide) w_m_belt (Nat.le_of_ble_eq_true rfl) ?_
  intro p e s m args below meth c R hRf hRl hRc hRs hx hb hr hlk hml hno hts hown hK hZ hsz
  intro H locs ls cells slots hW hS hl hc hs
  have hl : lv_has ls 2 [(0, .ref (L 30 0)), (1, .int a1)] := hl
  unfold F_m_belt at hF
  refine lv_aload_n hx hb d_m_belt_0 rfl (lv_at hl 0 rfl) ?_
  refine lv_iconst (v := 0) hx hb d_m_belt_1 (by decide) ?_
  refine hw_put (k := 30) (i := 0) (n := 1) (j := 25) (v := 0) hx hb hts hown hK hLi hW hS fp_m_44 (vp_nar_int _) rfl rfl (by omega) d_m_belt_2 (fun H locs hW hS => ?_)
  refine lv_iload_n hx hb d_m_belt_5 rfl (lv_at hl 1 rfl) ?_
  refine lv_if_lt (tgt := 26) hx hb d_m_belt_6 (by decide) (fun h1 => ?_) (fun h1 => ?_)
  · replace hF := (if_pos h1).symm.trans hF
    refine lv_iconst (v := (-1)) hx hb d_m_belt_26 (by decide) ?_
    exact hw_iret hx hb hr hlk (vp_nar_int _) hW hS (by omega) (by omega) d_m_belt_27 hF
  · replace hF := (if_neg h1).symm.trans hF
    refine lv_iload_n hx hb d_m_belt_9 rfl (lv_at hl 1 rfl) ?_
    refine lv_aload_n hx hb d_m_belt_10 rfl (lv_at hl 0 rfl) ?_
    refine hw_get (k := 30) (i := 0) (n := 1) (j := 4) (v := .int (f_gI (f_pI z 30 0 25 0) 30 0 4)) hx hb hts hown hK hW fl_m_52 rfl (by omega) rfl d_m_belt_11 ?_
    refine lv_icmp_ge (tgt := 26) hx hb d_m_belt_14 (by decide) (fun h2 => ?_) (fun h2 => ?_)
    · replace hF := (if_pos h2).symm.trans hF
      refine lv_iconst (v := (-1)) hx hb d_m_belt_26 (by decide) ?_
      exact hw_iret hx hb hr hlk (vp_nar_int _) hW hS (by omega) (by omega) d_m_belt_27 hF
    · replace hF := (if_neg h2).symm.trans hF
      refine lv_aload_n hx hb d_m_belt_17 rfl (lv_at hl 0 rfl) ?_
      refine lv_iload_n hx hb d_m_belt_18 rfl (lv_at hl 1 rfl) ?_
      refine lv_iconst (v := 0) hx hb d_m_belt_19 (by decide) ?_
      obtain ⟨v3, z3, hc3, hF⟩ := f_bd_some hF
      refine hw_VR (k := 30) (i := 0) (nk := 1) (As := [.int a1, .int 0]) (rest := []) hx hb hml hown hts (c_m_get_ok l hl0 hLi a1 0  _ _ _ hc3) st_m_48 (by decide) rfl (by omega) rfl rfl hK hZ hsz hS hW rfl hl.1 (Nat.le_of_ble_eq_true rfl) d_m_belt_20 (by omega) (by omega) (by omega) (by omega) (fun H locs hW hS => ?_)
      refine lv_goto (tgt := 27) hx hb d_m_belt_23 (by decide) ?_
      exact hw_iret hx hb hr hlk (vp_nar_int _) hW hS (by omega) (by omega) d_m_belt_27 hF
