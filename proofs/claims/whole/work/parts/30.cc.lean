/-! contracts: the method does what its pure function says -/
set_option maxRecDepth 100000 in
set_option maxHeartbeats 4000000 in
theorem c_b_requireOn_ok (l : Launch) (hl0 : l.stackTraces = false) {L : Nat → Nat → Nat} {Ar : Nat → ClassId} {D : va_G} {b0 : Nat} (hLi : f_L L b0)   (z : fST) (r : Unit ⊕ Nat) (z' : fST) (hF : F_b_requireOn  z = some (r, z')) : f_C l y_b_requireOn wt 7 1 L Ar D b0 [.ref (L 0 0)] z (f_ov r) z' := by
  refine f_ofW (cc := c_b_requireOn) (maxL := 1) (ret := (Option.none : Option Jvm.ClassFile.FieldType)) (by decide) w_b_requireOn (Nat.le_of_ble_eq_true rfl) ?_
  intro p e s m args below meth c R hRf hRl hRc hRs hx hb hr hlk hml hno hts hown hK hZ hsz
  intro H locs ls cells slots hW hS hl hc hs
  have hl : lv_has ls 1 [(0, .ref (L 0 0))] := hl
  unfold F_b_requireOn at hF
  refine lv_aload_n hx hb d_b_requireOn_0 rfl (lv_at hl 0 rfl) ?_
  refine hw_get (k := 0) (i := 0) (n := 1) (j := 4) (v := .ref (L 23 0)) hx hb hts hown hK hW fl_b_40 rfl (by omega) rfl d_b_requireOn_1 ?_
  refine hw_get (k := 23) (i := 0) (n := 1) (j := 2) (v := .int (f_gI z 23 0 2)) hx hb hts hown hK hW fl_b_116 rfl (by omega) rfl d_b_requireOn_4 ?_
  refine lv_if_ne (tgt := 18) hx hb d_b_requireOn_7 (by decide) (fun h1 => ?_) (fun h1 => ?_)
  · replace hF := (if_neg h1).symm.trans hF
    exact hw_vretX hx hb hr hlk hW hS (by omega) (by omega) d_b_requireOn_18 hF
  · replace hF := (if_pos h1).symm.trans hF
    exact hw_throw (g := f_ov) hl0 hx hb hts hown hlk hml hno hZ hsz rfl tw_b_248_250 hW hS hl.1 d_b_requireOn_10 d_b_requireOn_13 d_b_requireOn_14 d_b_requireOn_17 (by omega) (Nat.le_trans (Nat.le_of_ble_eq_true rfl : _ ≤ 40 * 7) (Nat.le_of_eq hRl.symm)) (by omega) (by omega) (by omega) (by omega) hF
set_option maxRecDepth 100000 in
set_option maxHeartbeats 4000000 in
theorem c_b_isIndex_ok (l : Launch) (hl0 : l.stackTraces = false) {L : Nat → Nat → Nat} {Ar : Nat → ClassId} {D : va_G} {b0 : Nat} (hLi : f_L L b0) (a0 : Int32) (a1 : Int32)  (z : fST) (r : Int32) (z' : fST) (hF : F_b_isIndex a0 a1 z = some (r, z')) : f_C l y_b_isIndex wt 1 0 L Ar D b0 [.int a0, .int a1] z (.inl (some (.int r))) z' := by
  refine f_ofW (cc := c_b_isIndex) (maxL := 2) (ret := (some FieldType.boolean)) (by decide) w_b_isIndex (Nat.le_of_ble_eq_true rfl) ?_
  intro p e s m args below meth c R hRf hRl hRc hRs hx hb hr hlk hml hno hts hown hK hZ hsz
  intro H locs ls cells slots hW hS hl hc hs
  have hl : lv_has ls 2 [(0, .int a0), (1, .int a1)] := hl
  unfold F_b_isIndex at hF
  refine lv_iload_n hx hb d_b_isIndex_0 rfl (lv_at hl 0 rfl) ?_
  refine lv_if_lt (tgt := 13) hx hb d_b_isIndex_1 (by decide) (fun h1 => ?_) (fun h1 => ?_)
  · replace hF := (if_pos h1).symm.trans hF
    refine lv_iconst (v := 0) hx hb d_b_isIndex_13 (by decide) ?_
    exact hw_iret hx hb hr hlk (f_nZ (Or.inl rfl)) hW hS (by omega) (by omega) d_b_isIndex_14 hF
  · replace hF := (if_neg h1).symm.trans hF
    refine lv_iload_n hx hb d_b_isIndex_4 rfl (lv_at hl 0 rfl) ?_
    refine lv_iload_n hx hb d_b_isIndex_5 rfl (lv_at hl 1 rfl) ?_
    refine lv_icmp_ge (tgt := 13) hx hb d_b_isIndex_6 (by decide) (fun h2 => ?_) (fun h2 => ?_)
    · replace hF := (if_pos h2).symm.trans hF
      refine lv_iconst (v := 0) hx hb d_b_isIndex_13 (by decide) ?_
      exact hw_iret hx hb hr hlk (f_nZ (Or.inl rfl)) hW hS (by omega) (by omega) d_b_isIndex_14 hF
    · replace hF := (if_neg h2).symm.trans hF
      refine lv_iconst (v := 1) hx hb d_b_isIndex_9 (by decide) ?_
      refine lv_goto (tgt := 14) hx hb d_b_isIndex_10 (by decide) ?_
      exact hw_iret hx hb hr hlk (f_nZ (Or.inr rfl)) hW hS (by omega) (by omega) d_b_isIndex_14 hF
set_option maxRecDepth 100000 in
set_option maxHeartbeats 4000000 in
theorem c_b_require_ok (l : Launch) (hl0 : l.stackTraces = false) {L : Nat → Nat → Nat} {Ar : Nat → ClassId} {D : va_G} {b0 : Nat} (hLi : f_L L b0) (a0 : Int32)  (z : fST) (r : Unit ⊕ Nat) (z' : fST) (hF : F_b_require a0 z = some (r, z')) : f_C l y_b_require wt 7 1 L Ar D b0 [.int a0] z (f_ov r) z' := by
  refine f_ofW (cc := c_b_require) (maxL := 1) (ret := (Option.none : Option Jvm.ClassFile.FieldType)) (by decide) w_b_require (Nat.le_of_ble_eq_true rfl) ?_
  intro p e s m args below meth c R hRf hRl hRc hRs hx hb hr hlk hml hno hts hown hK hZ hsz
  intro H locs ls cells slots hW hS hl hc hs
  have hl : lv_has ls 1 [(0, .int a0)] := hl
  unfold F_b_require at hF
  refine lv_iload_n hx hb d_b_require_0 rfl (lv_at hl 0 rfl) ?_
  refine lv_if_ne (tgt := 12) hx hb d_b_require_1 (by decide) (fun h1 => ?_) (fun h1 => ?_)
  · replace hF := (if_neg h1).symm.trans hF
    exact hw_vretX hx hb hr hlk hW hS (by omega) (by omega) d_b_require_12 hF
  · replace hF := (if_pos h1).symm.trans hF
    exact hw_throw (g := f_ov) hl0 hx hb hts hown hlk hml hno hZ hsz rfl tw_b_210_212 hW hS hl.1 d_b_require_4 d_b_require_7 d_b_require_8 d_b_require_11 (by omega) (Nat.le_trans (Nat.le_of_ble_eq_true rfl : _ ≤ 40 * 7) (Nat.le_of_eq hRl.symm)) (by omega) (by omega) (by omega) (by omega) hF
set_option maxRecDepth 100000 in
set_option maxHeartbeats 4000000 in
theorem c_b_isWithin_ok (l : Launch) (hl0 : l.stackTraces = false) {L : Nat → Nat → Nat} {Ar : Nat → ClassId} {D : va_G} {b0 : Nat} (hLi : f_L L b0) (a0 : Int32) (a1 : Int32) (a2 : Int32)  (z : fST) (r : Int32) (z' : fST) (hF : F_b_isWithin a0 a1 a2 z = some (r, z')) : f_C l y_b_isWithin wt 1 0 L Ar D b0 [.int a0, .int a1, .int a2] z (.inl (some (.int r))) z' := by
  refine f_ofW (cc := c_b_isWithin) (maxL := 3) (ret := (some FieldType.boolean)) (by decide) w_b_isWithin (Nat.le_of_ble_eq_true rfl) ?_
  intro p e s m args below meth c R hRf hRl hRc hRs hx hb hr hlk hml hno hts hown hK hZ hsz
  intro H locs ls cells slots hW hS hl hc hs
  have hl : lv_has ls 3 [(0, .int a0), (1, .int a1), (2, .int a2)] := hl
  unfold F_b_isWithin at hF
  refine lv_iload_n hx hb d_b_isWithin_0 rfl (lv_at hl 0 rfl) ?_
  refine lv_iload_n hx hb d_b_isWithin_1 rfl (lv_at hl 1 rfl) ?_
  refine lv_icmp_lt (tgt := 14) hx hb d_b_isWithin_2 (by decide) (fun h1 => ?_) (fun h1 => ?_)
  · replace hF := (if_pos h1).symm.trans hF
    refine lv_iconst (v := 0) hx hb d_b_isWithin_14 (by decide) ?_
    exact hw_iret hx hb hr hlk (f_nZ (Or.inl rfl)) hW hS (by omega) (by omega) d_b_isWithin_15 hF
  · replace hF := (if_neg h1).symm.trans hF
    refine lv_iload_n hx hb d_b_isWithin_5 rfl (lv_at hl 0 rfl) ?_
    refine lv_iload_n hx hb d_b_isWithin_6 rfl (lv_at hl 2 rfl) ?_
    refine lv_icmp_gt (tgt := 14) hx hb d_b_isWithin_7 (by decide) (fun h2 => ?_) (fun h2 => ?_)
    · replace hF := (if_pos h2).symm.trans hF
      refine lv_iconst (v := 0) hx hb d_b_isWithin_14 (by decide) ?_
      exact hw_iret hx hb hr hlk (f_nZ (Or.inl rfl)) hW hS (by omega) (by omega) d_b_isWithin_15 hF
    · replace hF := (if_neg h2).symm.trans hF
      refine lv_iconst (v := 1) hx hb d_b_isWithin_10 (by decide) ?_
      refine lv_goto (tgt := 15) hx hb d_b_isWithin_11 (by decide) ?_
      exact hw_iret hx hb hr hlk (f_nZ (Or.inr rfl)) hW hS (by omega) (by omega) d_b_isWithin_15 hF
set_option maxRecDepth 100000 in
set_option maxHeartbeats 4000000 in
theorem c_ca_setContour_ok (l : Launch) (hl0 : l.stackTraces = false) {L : Nat → Nat → Nat} {Ar : Nat → ClassId} {D : va_G} {b0 : Nat} (hLi : f_L L b0) (a1 : Int32) (a2 : Int32) (a3 : Int32) (a4 : Int32)  (z : fST) (r : Unit) (z' : fST) (hF : F_ca_setContour a1 a2 a3 a4 z = some (r, z')) : f_C l y_ca_setContour wt 1 0 L Ar D b0 [.ref (L 1 0), .int a1, .int a2, .int a3, .int a4] z (.inl none) z' := by
  refine f_ofW (cc := c_ca_setContour) (maxL := 7) (ret := (Option.none : Option Jvm.ClassFile.FieldType)) (by decide) w_ca_setContour (Nat.le_of_ble_eq_true rfl) ?_
  intro p e s m args below meth c R hRf hRl hRc hRs hx hb hr hlk hml hno hts hown hK hZ hsz
  have B21 : ∀ (k3 : Int32 × Int32 × Int32 × Int32 × Int32 × fST → Option (Unit × fST)) (K3 : ∀ (x1 : Int32) (x2 : Int32) (x3 : Int32) (x4 : Int32) (x5 : Int32) (z : fST), k3 (x1, x2, x3, x4, x5, z) = some (r, z') →  f_B p l e R s m args below meth c L Ar D b0 7 0 (f_E below args s L Ar D b0 0 (.inl none) z') 0 3 [(0, .ref (L 1 0)), (1, .int x1), (2, .int x2), (3, .int x3), (4, .int x4), (5, .int x5)] [] z) (x1 : Int32) (x2 : Int32) (x3 : Int32) (x4 : Int32) (x5 : Int32) (y0 : Int32) (z : fST), b_ca_setContour_21 k3 x1 x2 x3 x4 x5 y0 z = some (r, z') →  f_B p l e R s m args below meth c L Ar D b0 7 0 (f_E below args s L Ar D b0 0 (.inl none) z') 0 21 [(0, .ref (L 1 0)), (1, .int x1), (2, .int x2), (3, .int x3), (4, .int x4), (5, .int x5)] [.int y0] z := by
    intro k3 K3 x1 x2 x3 x4 x5 y0 z hF  H locs ls cells slots hW hS hl hc hs
    unfold b_ca_setContour_21 at hF
    refine lv_istore (lv' := [(6, .int y0), (0, .ref (L 1 0)), (1, .int x1), (2, .int x2), (3, .int x3), (4, .int x4), (5, .int x5)]) hx hb d_ca_setContour_21 hl (by decide) rfl (fun ls hl => ?_)
    refine lv_aload_n hx hb d_ca_setContour_23 rfl (lv_at hl 1 rfl) ?_
    refine hw_get (k := 1) (i := 0) (n := 1) (j := 6) (v := .ref (L 8 0)) hx hb hts hown hK hW fl_ca_32 rfl (by omega) rfl d_ca_setContour_24 ?_
    refine lv_iload_n hx hb d_ca_setContour_27 rfl (lv_at hl 2 rfl) ?_
    obtain ⟨g4, hF⟩ := f_gd_some hF
    have g4_lt := f_ib_lt g4
    refine hw_wald hx hb hK hW g4 d_ca_setContour_28 ?_
    refine lv_iload hx hb d_ca_setContour_29 (lv_at hl 6 rfl) ?_
    refine lv_iload hx hb d_ca_setContour_31 (lv_at hl 0 rfl) ?_
    refine lv_bipush (v := 24) hx hb d_ca_setContour_33 (by decide) ?_
    refine lv_iload hx hb d_ca_setContour_35 (lv_at hl 6 rfl) ?_
    refine lv_iconst (v := 4) hx hb d_ca_setContour_37 (by decide) ?_
    refine lv_irem hx hb d_ca_setContour_38 (by decide) ?_
    refine lv_bipush (v := 8) hx hb d_ca_setContour_39 (by decide) ?_
    refine lv_imul hx hb d_ca_setContour_41 ?_
    refine lv_isub hx hb d_ca_setContour_42 ?_
    refine lv_iushr (v := f_us y0 (24 - ((x5 - x5 / 4 * 4) * 8))) hx hb d_ca_setContour_43 rfl ?_
    refine lv_sipush (v := 255) hx hb d_ca_setContour_44 (by decide) ?_
    refine lv_iand hx hb d_ca_setContour_47 ?_
    obtain ⟨g5, hF⟩ := f_gd_some hF
    refine hw_iast (k := 9) (i := f_ix x1) (n := 8) hx hb hK hLi hW hS (by decide) rfl (by omega) rfl g5 d_ca_setContour_48 (fun H locs hW hS => ?_)
    refine lv_iinc (k := 6) (x := x5) (v := x5 + 1) (lv' := [(5, .int (x5 + 1)), (6, .int y0), (0, .ref (L 1 0)), (1, .int x1), (2, .int x2), (3, .int x3), (4, .int x4)]) hx hb d_ca_setContour_49 hl rfl rfl (by decide) rfl (fun ls hl => ?_)
    refine lv_goto (tgt := 3) hx hb d_ca_setContour_52 (by decide) ?_
    exact K3 x1 x2 x3 x4 (x5 + 1) (f_pI z 9 (f_ix x1) (f_ix x5) ((f_us y0 (24 - ((x5 - x5 / 4 * 4) * 8))) &&& 255)) hF _ _ _ _ _ hW hS (lv_sub hl [2, 3, 4, 5, 6, 0] rfl) (by omega) (by omega)
  have B3 : ∀  (n : Nat) (x1 : Int32) (x2 : Int32) (x3 : Int32) (x4 : Int32) (x5 : Int32) (z : fST), f_it (b_ca_setContour_3 ) n (x1, x2, x3, x4, x5, z) = some (r, z') →  f_B p l e R s m args below meth c L Ar D b0 7 0 (f_E below args s L Ar D b0 0 (.inl none) z') 0 3 [(0, .ref (L 1 0)), (1, .int x1), (2, .int x2), (3, .int x3), (4, .int x4), (5, .int x5)] [] z := by
    intro  n
    induction n with
    | zero => intro x1 x2 x3 x4 x5 z hF; cases hF
    | succ n ih =>
    intro x1 x2 x3 x4 x5 z hF  H locs ls cells slots hW hS hl hc hs
    replace hF := f_it_s hF
    have K3 : ∀ (x1 : Int32) (x2 : Int32) (x3 : Int32) (x4 : Int32) (x5 : Int32) (z : fST), f_it (b_ca_setContour_3 ) n (x1, x2, x3, x4, x5, z) = some (r, z') →  f_B p l e R s m args below meth c L Ar D b0 7 0 (f_E below args s L Ar D b0 0 (.inl none) z') 0 3 [(0, .ref (L 1 0)), (1, .int x1), (2, .int x2), (3, .int x3), (4, .int x4), (5, .int x5)] [] z := fun x1 x2 x3 x4 x5 z hF => ih x1 x2 x3 x4 x5 z hF
    generalize f_it (b_ca_setContour_3 ) n = k3 at hF K3
    unfold b_ca_setContour_3 at hF
    dsimp only at hF
    refine lv_iload hx hb d_ca_setContour_3 (lv_at hl 5 rfl) ?_
    refine lv_bipush (v := 8) hx hb d_ca_setContour_5 (by decide) ?_
    refine lv_icmp_ge (tgt := 55) hx hb d_ca_setContour_7 (by decide) (fun h1 => ?_) (fun h1 => ?_)
    · replace hF := (if_pos h1).symm.trans hF
      refine lv_aload_n hx hb d_ca_setContour_55 rfl (lv_at hl 0 rfl) ?_
      refine hw_get (k := 1) (i := 0) (n := 1) (j := 7) (v := .ref (L 10 0)) hx hb hts hown hK hW fl_ca_35 rfl (by omega) rfl d_ca_setContour_56 ?_
      refine lv_iload_n hx hb d_ca_setContour_59 rfl (lv_at hl 1 rfl) ?_
      refine lv_iload hx hb d_ca_setContour_60 (lv_at hl 4 rfl) ?_
      obtain ⟨g2, hF⟩ := f_gd_some hF
      refine hw_iast (k := 10) (i := 0) (n := 1) hx hb hK hLi hW hS (by decide) rfl (by omega) rfl g2 d_ca_setContour_62 (fun H locs hW hS => ?_)
      exact hw_vret hx hb hr hlk hW hS (by omega) (by omega) d_ca_setContour_63 hF
    · replace hF := (if_neg h1).symm.trans hF
      refine lv_iload hx hb d_ca_setContour_10 (lv_at hl 5 rfl) ?_
      refine lv_iconst (v := 4) hx hb d_ca_setContour_12 (by decide) ?_
      refine lv_icmp_ge (tgt := 20) hx hb d_ca_setContour_13 (by decide) (fun h3 => ?_) (fun h3 => ?_)
      · replace hF := (if_pos h3).symm.trans hF
        refine lv_iload_n hx hb d_ca_setContour_20 rfl (lv_at hl 3 rfl) ?_
        exact B21 k3 K3 x1 x2 x3 x4 x5 x3 z hF _ _ _ _ _ hW hS (lv_sub hl [0, 1, 2, 3, 4, 5] rfl) (by omega) (by omega)
      · replace hF := (if_neg h3).symm.trans hF
        refine lv_iload_n hx hb d_ca_setContour_16 rfl (lv_at hl 2 rfl) ?_
        refine lv_goto (tgt := 21) hx hb d_ca_setContour_17 (by decide) ?_
        exact B21 k3 K3 x1 x2 x3 x4 x5 x2 z hF _ _ _ _ _ hW hS (lv_sub hl [0, 1, 2, 3, 4, 5] rfl) (by omega) (by omega)
  intro H locs ls cells slots hW hS hl hc hs
  have hl : lv_has ls 7 [(0, .ref (L 1 0)), (1, .int a1), (2, .int a2), (3, .int a3), (4, .int a4)] := hl
  unfold F_ca_setContour at hF
  refine lv_iconst (v := 0) hx hb d_ca_setContour_0 (by decide) ?_
  refine lv_istore (lv' := [(5, .int 0), (0, .ref (L 1 0)), (1, .int a1), (2, .int a2), (3, .int a3), (4, .int a4)]) hx hb d_ca_setContour_1 hl (by decide) rfl (fun ls hl => ?_)
  exact B3 2000 a1 a2 a3 a4 0 z hF _ _ _ _ _ hW hS (lv_sub hl [1, 2, 3, 4, 5, 0] rfl) (by omega) (by omega)
set_option maxRecDepth 100000 in
set_option maxHeartbeats 4000000 in
theorem c_b_contour_ok (l : Launch) (hl0 : l.stackTraces = false) {L : Nat → Nat → Nat} {Ar : Nat → ClassId} {D : va_G} {b0 : Nat} (hLi : f_L L b0) (a1 : Int32) (a2 : Int32) (a3 : Int32) (a4 : Int32)  (z : fST) (r : Unit ⊕ Nat) (z' : fST) (hF : F_b_contour a1 a2 a3 a4 z = some (r, z')) : f_C l y_b_contour wt 8 3 L Ar D b0 [.ref (L 0 0), .int a1, .int a2, .int a3, .int a4] z (f_ov r) z' := by
  refine f_ofW (cc := c_b_contour) (maxL := 5) (ret := (Option.none : Option Jvm.ClassFile.FieldType)) (by decide) w_b_contour (Nat.le_of_ble_eq_true rfl) ?_
  intro p e s m args below meth c R hRf hRl hRc hRs hx hb hr hlk hml hno hts hown hK hZ hsz
  intro H locs ls cells slots hW hS hl hc hs
  have hl : lv_has ls 5 [(0, .ref (L 0 0)), (1, .int a1), (2, .int a2), (3, .int a3), (4, .int a4)] := hl
  unfold F_b_contour at hF
  refine lv_aload_n hx hb d_b_contour_0 rfl (lv_at hl 0 rfl) ?_
  rcases f_bx_some hF with ⟨v1, z1, hc1, hF⟩ | ⟨v1, z1, hc1, hF⟩
  · skip
    refine hw_VR (k := 0) (i := 0) (nk := 1) (As := []) (rest := []) hx hb hml hown hts (c_b_requireOn_ok l hl0 hLi   _ _ _ hc1) st_b_55 (by decide) rfl (by omega) rfl rfl hK hZ hsz hS hW rfl hl.1 (Nat.le_of_ble_eq_true rfl) d_b_contour_1 (by omega) (by omega) (by omega) (by omega) (fun H locs hW hS => ?_)
    refine lv_iload_n hx hb d_b_contour_4 rfl (lv_at hl 1 rfl) ?_
    refine lv_bipush (v := 8) hx hb d_b_contour_5 (by decide) ?_
    obtain ⟨v2, z2, hc2, hF⟩ := f_bd_some hF
    refine hw_SR (As := [.int a1, .int 8]) (rest := []) hx hb hml hown hts (c_b_isIndex_ok l hl0 hLi a1 8  _ _ _ hc2) st_b_58 hK hZ hsz hS hW rfl hl.1 (Nat.le_of_ble_eq_true rfl) d_b_contour_7 (by omega) (by omega) (by omega) (by omega) (fun H locs hW hS => ?_)
    rcases f_bx_some hF with ⟨v3, z3, hc3, hF⟩ | ⟨v3, z3, hc3, hF⟩
    · skip
      refine hw_SR (As := [.int v2]) (rest := []) hx hb hml hown hts (c_b_require_ok l hl0 hLi v2  _ _ _ hc3) st_b_62 hK hZ hsz hS hW rfl hl.1 (Nat.le_of_ble_eq_true rfl) d_b_contour_10 (by omega) (by omega) (by omega) (by omega) (fun H locs hW hS => ?_)
      refine lv_iload hx hb d_b_contour_13 (lv_at hl 4 rfl) ?_
      refine lv_iconst (v := 0) hx hb d_b_contour_15 (by decide) ?_
      refine lv_sipush (v := 2040) hx hb d_b_contour_16 (by decide) ?_
      obtain ⟨v4, z4, hc4, hF⟩ := f_bd_some hF
      refine hw_SR (As := [.int a4, .int 0, .int 2040]) (rest := []) hx hb hml hown hts (c_b_isWithin_ok l hl0 hLi a4 0 2040  _ _ _ hc4) st_b_66 hK hZ hsz hS hW rfl hl.1 (Nat.le_of_ble_eq_true rfl) d_b_contour_19 (by omega) (by omega) (by omega) (by omega) (fun H locs hW hS => ?_)
      rcases f_bx_some hF with ⟨v5, z5, hc5, hF⟩ | ⟨v5, z5, hc5, hF⟩
      · skip
        refine hw_SR (As := [.int v4]) (rest := []) hx hb hml hown hts (c_b_require_ok l hl0 hLi v4  _ _ _ hc5) st_b_62 hK hZ hsz hS hW rfl hl.1 (Nat.le_of_ble_eq_true rfl) d_b_contour_22 (by omega) (by omega) (by omega) (by omega) (fun H locs hW hS => ?_)
        refine lv_aload_n hx hb d_b_contour_25 rfl (lv_at hl 0 rfl) ?_
        refine hw_get (k := 0) (i := 0) (n := 1) (j := 0) (v := .ref (L 1 0)) hx hb hts hown hK hW fl_b_12 rfl (by omega) rfl d_b_contour_26 ?_
        refine lv_iload_n hx hb d_b_contour_29 rfl (lv_at hl 1 rfl) ?_
        refine lv_iload_n hx hb d_b_contour_30 rfl (lv_at hl 2 rfl) ?_
        refine lv_iload_n hx hb d_b_contour_31 rfl (lv_at hl 3 rfl) ?_
        refine lv_iload hx hb d_b_contour_32 (lv_at hl 4 rfl) ?_
        obtain ⟨v6, z6, hc6, hF⟩ := f_bd_some hF
        refine hw_VR (k := 1) (i := 0) (nk := 1) (As := [.int a1, .int a2, .int a3, .int a4]) (rest := []) hx hb hml hown hts (c_ca_setContour_ok l hl0 hLi a1 a2 a3 a4  _ _ _ hc6) st_b_70 (by decide) rfl (by omega) rfl rfl hK hZ hsz hS hW rfl hl.1 (Nat.le_of_ble_eq_true rfl) d_b_contour_34 (by omega) (by omega) (by omega) (by omega) (fun H locs hW hS => ?_)
        exact hw_vretX hx hb hr hlk hW hS (by omega) (by omega) d_b_contour_37 hF
      · cases hF
        exact hw_SX (As := [.int v4]) (rest := []) hx hb hml hown hts (c_b_require_ok l hl0 hLi v4  _ _ _ hc5) st_b_62 hK hZ hsz hS hW rfl hl.1 (Nat.le_of_ble_eq_true rfl) d_b_contour_22 (by omega) (by omega) (by omega) (by omega) (fun q ce H locs hW hS hq hv hcl => hw_out (fun x hx => (hno x hx).elim) hlk hW hS hq hv hcl (by omega) (by omega))
    · cases hF
      exact hw_SX (As := [.int v2]) (rest := []) hx hb hml hown hts (c_b_require_ok l hl0 hLi v2  _ _ _ hc3) st_b_62 hK hZ hsz hS hW rfl hl.1 (Nat.le_of_ble_eq_true rfl) d_b_contour_10 (by omega) (by omega) (by omega) (by omega) (fun q ce H locs hW hS hq hv hcl => hw_out (fun x hx => (hno x hx).elim) hlk hW hS hq hv hcl (by omega) (by omega))
  · cases hF
    exact hw_VX (k := 0) (i := 0) (nk := 1) (As := []) (rest := []) hx hb hml hown hts (c_b_requireOn_ok l hl0 hLi   _ _ _ hc1) st_b_55 (by decide) rfl (by omega) rfl rfl hK hZ hsz hS hW rfl hl.1 (Nat.le_of_ble_eq_true rfl) d_b_contour_1 (by omega) (by omega) (by omega) (by omega) (fun q ce H locs hW hS hq hv hcl => hw_out (fun x hx => (hno x hx).elim) hlk hW hS hq hv hcl (by omega) (by omega))
set_option maxRecDepth 100000 in
set_option maxHeartbeats 4000000 in
theorem c_b_requireEmptyBelt_ok (l : Launch) (hl0 : l.stackTraces = false) {L : Nat → Nat → Nat} {Ar : Nat → ClassId} {D : va_G} {b0 : Nat} (hLi : f_L L b0)   (z : fST) (r : Unit ⊕ Nat) (z' : fST) (hF : F_b_requireEmptyBelt  z = some (r, z')) : f_C l y_b_requireEmptyBelt wt 7 1 L Ar D b0 [.ref (L 0 0)] z (f_ov r) z' := by
  refine f_ofW (cc := c_b_requireEmptyBelt) (maxL := 1) (ret := (Option.none : Option Jvm.ClassFile.FieldType)) (by decide) w_b_requireEmptyBelt (Nat.le_of_ble_eq_true rfl) ?_
  intro p e s m args below meth c R hRf hRl hRc hRs hx hb hr hlk hml hno hts hown hK hZ hsz
  intro H locs ls cells slots hW hS hl hc hs
  have hl : lv_has ls 1 [(0, .ref (L 0 0))] := hl
  unfold F_b_requireEmptyBelt at hF
  refine lv_aload_n hx hb d_b_requireEmptyBelt_0 rfl (lv_at hl 0 rfl) ?_
  refine hw_get (k := 0) (i := 0) (n := 1) (j := 1) (v := .ref (L 11 0)) hx hb hts hown hK hW fl_b_19 rfl (by omega) rfl d_b_requireEmptyBelt_1 ?_
  refine hw_get (k := 11) (i := 0) (n := 1) (j := 1) (v := .int (f_gI z 11 0 1)) hx hb hts hown hK hW fl_b_127 rfl (by omega) rfl d_b_requireEmptyBelt_4 ?_
  refine lv_if_le (tgt := 18) hx hb d_b_requireEmptyBelt_7 (by decide) (fun h1 => ?_) (fun h1 => ?_)
  · replace hF := (if_pos h1).symm.trans hF
    exact hw_vretX hx hb hr hlk hW hS (by omega) (by omega) d_b_requireEmptyBelt_18 hF
  · replace hF := (if_neg h1).symm.trans hF
    exact hw_throw (g := f_ov) hl0 hx hb hts hown hlk hml hno hZ hsz rfl tw_b_248_250 hW hS hl.1 d_b_requireEmptyBelt_10 d_b_requireEmptyBelt_13 d_b_requireEmptyBelt_14 d_b_requireEmptyBelt_17 (by omega) (Nat.le_trans (Nat.le_of_ble_eq_true rfl : _ ≤ 40 * 7) (Nat.le_of_eq hRl.symm)) (by omega) (by omega) (by omega) (by omega) hF
set_option maxRecDepth 100000 in
set_option maxHeartbeats 4000000 in
theorem c_ca_kindWith_ok (l : Launch) (hl0 : l.stackTraces = false) {L : Nat → Nat → Nat} {Ar : Nat → ClassId} {D : va_G} {b0 : Nat} (hLi : f_L L b0) (a1 : Int32)  (z : fST) (r : Int32) (z' : fST) (hF : F_ca_kindWith a1 z = some (r, z')) : f_C l y_ca_kindWith wt 1 0 L Ar D b0 [.ref (L 1 0), .int a1] z (.inl (some (.int r))) z' := by
  refine f_ofW (cc := c_ca_kindWith) (maxL := 3) (ret := (some FieldType.int)) (by decide) w_ca_kindWith (Nat.le_of_ble_eq_true rfl) ?_
  intro p e s m args below meth c R hRf hRl hRc hRs hx hb hr hlk hml hno hts hown hK hZ hsz
  have B2 : ∀  (n : Nat) (x1 : Int32) (x2 : Int32) (z : fST), f_it (b_ca_kindWith_2 ) n (x1, x2, z) = some (r, z') →  f_B p l e R s m args below meth c L Ar D b0 3 0 (f_E below args s L Ar D b0 0 (.inl (some (.int r))) z') 0 2 [(0, .ref (L 1 0)), (1, .int x1), (2, .int x2)] [] z := by
    intro  n
    induction n with
    | zero => intro x1 x2 z hF; cases hF
    | succ n ih =>
    intro x1 x2 z hF  H locs ls cells slots hW hS hl hc hs
    replace hF := f_it_s hF
    have K2 : ∀ (x1 : Int32) (x2 : Int32) (z : fST), f_it (b_ca_kindWith_2 ) n (x1, x2, z) = some (r, z') →  f_B p l e R s m args below meth c L Ar D b0 3 0 (f_E below args s L Ar D b0 0 (.inl (some (.int r))) z') 0 2 [(0, .ref (L 1 0)), (1, .int x1), (2, .int x2)] [] z := fun x1 x2 z hF => ih x1 x2 z hF
    generalize f_it (b_ca_kindWith_2 ) n = k2 at hF K2
    unfold b_ca_kindWith_2 at hF
    dsimp only at hF
    refine lv_iload_n hx hb d_ca_kindWith_2 rfl (lv_at hl 2 rfl) ?_
    refine lv_bipush (v := 40) hx hb d_ca_kindWith_3 (by decide) ?_
    refine lv_icmp_ge (tgt := 26) hx hb d_ca_kindWith_5 (by decide) (fun h1 => ?_) (fun h1 => ?_)
    · replace hF := (if_pos h1).symm.trans hF
      refine lv_iconst (v := (-1)) hx hb d_ca_kindWith_26 (by decide) ?_
      exact hw_iret hx hb hr hlk (vp_nar_int _) hW hS (by omega) (by omega) d_ca_kindWith_27 hF
    · replace hF := (if_neg h1).symm.trans hF
      refine lv_aload_n hx hb d_ca_kindWith_8 rfl (lv_at hl 0 rfl) ?_
      refine hw_get (k := 1) (i := 0) (n := 1) (j := 0) (v := .ref (L 2 0)) hx hb hts hown hK hW fl_ca_9 rfl (by omega) rfl d_ca_kindWith_9 ?_
      refine lv_iload_n hx hb d_ca_kindWith_12 rfl (lv_at hl 2 rfl) ?_
      obtain ⟨g2, hF⟩ := f_gd_some hF
      refine hw_iald (k := 2) (i := 0) (n := 1) hx hb hK hW (by decide) rfl (by omega) rfl g2 d_ca_kindWith_13 ?_
      refine lv_iload_n hx hb d_ca_kindWith_14 rfl (lv_at hl 1 rfl) ?_
      refine lv_icmp_ne (tgt := 20) hx hb d_ca_kindWith_15 (by decide) (fun h3 => ?_) (fun h3 => ?_)
      · replace hF := (if_neg h3).symm.trans hF
        refine lv_iinc (k := 2) (x := x2) (v := x2 + 1) (lv' := [(2, .int (x2 + 1)), (0, .ref (L 1 0)), (1, .int x1)]) hx hb d_ca_kindWith_20 hl rfl rfl (by decide) rfl (fun ls hl => ?_)
        refine lv_goto (tgt := 2) hx hb d_ca_kindWith_23 (by decide) ?_
        exact K2 x1 (x2 + 1) z hF _ _ _ _ _ hW hS (lv_sub hl [1, 2, 0] rfl) (by omega) (by omega)
      · replace hF := (if_pos h3).symm.trans hF
        refine lv_iload_n hx hb d_ca_kindWith_18 rfl (lv_at hl 2 rfl) ?_
        exact hw_iret hx hb hr hlk (vp_nar_int _) hW hS (by omega) (by omega) d_ca_kindWith_19 hF
  intro H locs ls cells slots hW hS hl hc hs
  have hl : lv_has ls 3 [(0, .ref (L 1 0)), (1, .int a1)] := hl
  unfold F_ca_kindWith at hF
  refine lv_iconst (v := 0) hx hb d_ca_kindWith_0 (by decide) ?_
  refine lv_istore_n (lv' := [(2, .int 0), (0, .ref (L 1 0)), (1, .int a1)]) hx hb d_ca_kindWith_1 rfl hl (by decide) rfl (fun ls hl => ?_)
  exact B2 2000 a1 0 z hF _ _ _ _ _ hW hS (lv_sub hl [1, 2, 0] rfl) (by omega) (by omega)
set_option maxRecDepth 100000 in
set_option maxHeartbeats 4000000 in
theorem c_ca_dropCode_ok (l : Launch) (hl0 : l.stackTraces = false) {L : Nat → Nat → Nat} {Ar : Nat → ClassId} {D : va_G} {b0 : Nat} (hLi : f_L L b0) (a1 : Int32)  (z : fST) (r : Unit) (z' : fST) (hF : F_ca_dropCode a1 z = some (r, z')) : f_C l y_ca_dropCode wt 1 0 L Ar D b0 [.ref (L 1 0), .int a1] z (.inl none) z' := by
  refine f_ofW (cc := c_ca_dropCode) (maxL := 2) (ret := (Option.none : Option Jvm.ClassFile.FieldType)) (by decide) w_ca_dropCode (Nat.le_of_ble_eq_true rfl) ?_
  intro p e s m args below meth c R hRf hRl hRc hRs hx hb hr hlk hml hno hts hown hK hZ hsz
  intro H locs ls cells slots hW hS hl hc hs
  have hl : lv_has ls 2 [(0, .ref (L 1 0)), (1, .int a1)] := hl
  unfold F_ca_dropCode at hF
  refine lv_iload_n hx hb d_ca_dropCode_0 rfl (lv_at hl 1 rfl) ?_
  refine lv_iconst (v := (-1)) hx hb d_ca_dropCode_1 (by decide) ?_
  refine lv_icmp_eq (tgt := 12) hx hb d_ca_dropCode_2 (by decide) (fun h1 => ?_) (fun h1 => ?_)
  · replace hF := (if_pos h1).symm.trans hF
    exact hw_vret hx hb hr hlk hW hS (by omega) (by omega) d_ca_dropCode_12 hF
  · replace hF := (if_neg h1).symm.trans hF
    refine lv_aload_n hx hb d_ca_dropCode_5 rfl (lv_at hl 0 rfl) ?_
    refine hw_get (k := 1) (i := 0) (n := 1) (j := 0) (v := .ref (L 2 0)) hx hb hts hown hK hW fl_ca_9 rfl (by omega) rfl d_ca_dropCode_6 ?_
    refine lv_iload_n hx hb d_ca_dropCode_9 rfl (lv_at hl 1 rfl) ?_
    refine lv_iconst (v := 0) hx hb d_ca_dropCode_10 (by decide) ?_
    obtain ⟨g2, hF⟩ := f_gd_some hF
    refine hw_iast (k := 2) (i := 0) (n := 1) hx hb hK hLi hW hS (by decide) rfl (by omega) rfl g2 d_ca_dropCode_11 (fun H locs hW hS => ?_)
    exact hw_vret hx hb hr hlk hW hS (by omega) (by omega) d_ca_dropCode_12 hF
set_option maxRecDepth 100000 in
set_option maxHeartbeats 4000000 in
theorem c_ca_setKind_ok (l : Launch) (hl0 : l.stackTraces = false) {L : Nat → Nat → Nat} {Ar : Nat → ClassId} {D : va_G} {b0 : Nat} (hLi : f_L L b0) (a1 : Int32) (a2 : Int32) (a3 : Int32) (a4 : Int32) (a5 : Int32) (a6 : Int32) (a7 : Int32)  (z : fST) (r : Unit) (z' : fST) (hF : F_ca_setKind a1 a2 a3 a4 a5 a6 a7 z = some (r, z')) : f_C l y_ca_setKind wt 1 0 L Ar D b0 [.ref (L 1 0), .int a1, .int a2, .int a3, .int a4, .int a5, .int a6, .int a7] z (.inl none) z' := by
  refine f_ofW (cc := c_ca_setKind) (maxL := 8) (ret := (Option.none : Option Jvm.ClassFile.FieldType)) (by decide) w_ca_setKind (Nat.le_of_ble_eq_true rfl) ?_
  intro p e s m args below meth c R hRf hRl hRc hRs hx hb hr hlk hml hno hts hown hK hZ hsz
  intro H locs ls cells slots hW hS hl hc hs
  have hl : lv_has ls 8 [(0, .ref (L 1 0)), (1, .int a1), (2, .int a2), (3, .int a3), (4, .int a4), (5, .int a5), (6, .int a6), (7, .int a7)] := hl
  unfold F_ca_setKind at hF
  refine lv_aload_n hx hb d_ca_setKind_0 rfl (lv_at hl 0 rfl) ?_
  refine hw_get (k := 1) (i := 0) (n := 1) (j := 0) (v := .ref (L 2 0)) hx hb hts hown hK hW fl_ca_9 rfl (by omega) rfl d_ca_setKind_1 ?_
  refine lv_iload_n hx hb d_ca_setKind_4 rfl (lv_at hl 1 rfl) ?_
  refine lv_iload_n hx hb d_ca_setKind_5 rfl (lv_at hl 2 rfl) ?_
  obtain ⟨g1, hF⟩ := f_gd_some hF
  refine hw_iast (k := 2) (i := 0) (n := 1) hx hb hK hLi hW hS (by decide) rfl (by omega) rfl g1 d_ca_setKind_6 (fun H locs hW hS => ?_)
  refine lv_aload_n hx hb d_ca_setKind_7 rfl (lv_at hl 0 rfl) ?_
  refine hw_get (k := 1) (i := 0) (n := 1) (j := 1) (v := .ref (L 3 0)) hx hb hts hown hK hW fl_ca_15 rfl (by omega) rfl d_ca_setKind_8 ?_
  refine lv_iload_n hx hb d_ca_setKind_11 rfl (lv_at hl 1 rfl) ?_
  refine lv_iload_n hx hb d_ca_setKind_12 rfl (lv_at hl 3 rfl) ?_
  obtain ⟨g2, hF⟩ := f_gd_some hF
  refine hw_iast (k := 3) (i := 0) (n := 1) hx hb hK hLi hW hS (by decide) rfl (by omega) rfl g2 d_ca_setKind_13 (fun H locs hW hS => ?_)
  refine lv_aload_n hx hb d_ca_setKind_14 rfl (lv_at hl 0 rfl) ?_
  refine hw_get (k := 1) (i := 0) (n := 1) (j := 2) (v := .ref (L 4 0)) hx hb hts hown hK hW fl_ca_18 rfl (by omega) rfl d_ca_setKind_15 ?_
  refine lv_iload_n hx hb d_ca_setKind_18 rfl (lv_at hl 1 rfl) ?_
  refine lv_iload hx hb d_ca_setKind_19 (lv_at hl 4 rfl) ?_
  obtain ⟨g3, hF⟩ := f_gd_some hF
  refine hw_iast (k := 4) (i := 0) (n := 1) hx hb hK hLi hW hS (by decide) rfl (by omega) rfl g3 d_ca_setKind_21 (fun H locs hW hS => ?_)
  refine lv_aload_n hx hb d_ca_setKind_22 rfl (lv_at hl 0 rfl) ?_
  refine hw_get (k := 1) (i := 0) (n := 1) (j := 3) (v := .ref (L 5 0)) hx hb hts hown hK hW fl_ca_21 rfl (by omega) rfl d_ca_setKind_23 ?_
  refine lv_iload_n hx hb d_ca_setKind_26 rfl (lv_at hl 1 rfl) ?_
  refine lv_iload hx hb d_ca_setKind_27 (lv_at hl 5 rfl) ?_
  obtain ⟨g4, hF⟩ := f_gd_some hF
  refine hw_iast (k := 5) (i := 0) (n := 1) hx hb hK hLi hW hS (by decide) rfl (by omega) rfl g4 d_ca_setKind_29 (fun H locs hW hS => ?_)
  refine lv_aload_n hx hb d_ca_setKind_30 rfl (lv_at hl 0 rfl) ?_
  refine hw_get (k := 1) (i := 0) (n := 1) (j := 4) (v := .ref (L 6 0)) hx hb hts hown hK hW fl_ca_24 rfl (by omega) rfl d_ca_setKind_31 ?_
  refine lv_iload_n hx hb d_ca_setKind_34 rfl (lv_at hl 1 rfl) ?_
  refine lv_iload hx hb d_ca_setKind_35 (lv_at hl 6 rfl) ?_
  obtain ⟨g5, hF⟩ := f_gd_some hF
  refine hw_iast (k := 6) (i := 0) (n := 1) hx hb hK hLi hW hS (by decide) rfl (by omega) rfl g5 d_ca_setKind_37 (fun H locs hW hS => ?_)
  refine lv_aload_n hx hb d_ca_setKind_38 rfl (lv_at hl 0 rfl) ?_
  refine hw_get (k := 1) (i := 0) (n := 1) (j := 5) (v := .ref (L 7 0)) hx hb hts hown hK hW fl_ca_27 rfl (by omega) rfl d_ca_setKind_39 ?_
  refine lv_iload_n hx hb d_ca_setKind_42 rfl (lv_at hl 1 rfl) ?_
  refine lv_iload hx hb d_ca_setKind_43 (lv_at hl 7 rfl) ?_
  obtain ⟨g6, hF⟩ := f_gd_some hF
  refine hw_iast (k := 7) (i := 0) (n := 1) hx hb hK hLi hW hS (by decide) rfl (by omega) rfl g6 d_ca_setKind_45 (fun H locs hW hS => ?_)
  exact hw_vret hx hb hr hlk hW hS (by omega) (by omega) d_ca_setKind_46 hF
set_option maxRecDepth 100000 in
set_option maxHeartbeats 4000000 in
theorem c_b_kind_ok (l : Launch) (hl0 : l.stackTraces = false) {L : Nat → Nat → Nat} {Ar : Nat → ClassId} {D : va_G} {b0 : Nat} (hLi : f_L L b0) (a1 : Int32) (a2 : Int32) (a3 : Int32) (a4 : Int32) (a5 : Int32) (a6 : Int32) (a7 : Int32)  (z : fST) (r : Int32 ⊕ Nat) (z' : fST) (hF : F_b_kind a1 a2 a3 a4 a5 a6 a7 z = some (r, z')) : f_C l y_b_kind wt 8 9 L Ar D b0 [.ref (L 0 0), .int a1, .int a2, .int a3, .int a4, .int a5, .int a6, .int a7] z (f_oi r) z' := by
  refine f_ofW (cc := c_b_kind) (maxL := 9) (ret := (some FieldType.int)) (by decide) w_b_kind (Nat.le_of_ble_eq_true rfl) ?_
  intro p e s m args below meth c R hRf hRl hRc hRs hx hb hr hlk hml hno hts hown hK hZ hsz
  intro H locs ls cells slots hW hS hl hc hs
  have hl : lv_has ls 9 [(0, .ref (L 0 0)), (1, .int a1), (2, .int a2), (3, .int a3), (4, .int a4), (5, .int a5), (6, .int a6), (7, .int a7)] := hl
  unfold F_b_kind at hF
  refine lv_aload_n hx hb d_b_kind_0 rfl (lv_at hl 0 rfl) ?_
  rcases f_bx_some hF with ⟨v1, z1, hc1, hF⟩ | ⟨v1, z1, hc1, hF⟩
  · skip
    refine hw_VR (k := 0) (i := 0) (nk := 1) (As := []) (rest := []) hx hb hml hown hts (c_b_requireOn_ok l hl0 hLi   _ _ _ hc1) st_b_55 (by decide) rfl (by omega) rfl rfl hK hZ hsz hS hW rfl hl.1 (Nat.le_of_ble_eq_true rfl) d_b_kind_1 (by omega) (by omega) (by omega) (by omega) (fun H locs hW hS => ?_)
    refine lv_aload_n hx hb d_b_kind_4 rfl (lv_at hl 0 rfl) ?_
    rcases f_bx_some hF with ⟨v2, z2, hc2, hF⟩ | ⟨v2, z2, hc2, hF⟩
    · skip
      refine hw_VR (k := 0) (i := 0) (nk := 1) (As := []) (rest := []) hx hb hml hown hts (c_b_requireEmptyBelt_ok l hl0 hLi   _ _ _ hc2) st_b_74 (by decide) rfl (by omega) rfl rfl hK hZ hsz hS hW rfl hl.1 (Nat.le_of_ble_eq_true rfl) d_b_kind_5 (by omega) (by omega) (by omega) (by omega) (fun H locs hW hS => ?_)
      refine lv_iload_n hx hb d_b_kind_8 rfl (lv_at hl 1 rfl) ?_
      refine lv_bipush (v := 40) hx hb d_b_kind_9 (by decide) ?_
      obtain ⟨v3, z3, hc3, hF⟩ := f_bd_some hF
      refine hw_SR (As := [.int a1, .int 40]) (rest := []) hx hb hml hown hts (c_b_isIndex_ok l hl0 hLi a1 40  _ _ _ hc3) st_b_58 hK hZ hsz hS hW rfl hl.1 (Nat.le_of_ble_eq_true rfl) d_b_kind_11 (by omega) (by omega) (by omega) (by omega) (fun H locs hW hS => ?_)
      rcases f_bx_some hF with ⟨v4, z4, hc4, hF⟩ | ⟨v4, z4, hc4, hF⟩
      · skip
        refine hw_SR (As := [.int v3]) (rest := []) hx hb hml hown hts (c_b_require_ok l hl0 hLi v3  _ _ _ hc4) st_b_62 hK hZ hsz hS hW rfl hl.1 (Nat.le_of_ble_eq_true rfl) d_b_kind_14 (by omega) (by omega) (by omega) (by omega) (fun H locs hW hS => ?_)
        refine lv_iload_n hx hb d_b_kind_17 rfl (lv_at hl 2 rfl) ?_
        refine lv_iconst (v := 1) hx hb d_b_kind_18 (by decide) ?_
        refine lv_ldc (v := 999999) hx hb hown (hts _ (wt_in (List.mem_of_getElem? (i := 418) (by decide +kernel)) rfl)) d_b_kind_19 ?_
        obtain ⟨v5, z5, hc5, hF⟩ := f_bd_some hF
        refine hw_SR (As := [.int a2, .int 1, .int 999999]) (rest := []) hx hb hml hown hts (c_b_isWithin_ok l hl0 hLi a2 1 999999  _ _ _ hc5) st_b_66 hK hZ hsz hS hW rfl hl.1 (Nat.le_of_ble_eq_true rfl) d_b_kind_21 (by omega) (by omega) (by omega) (by omega) (fun H locs hW hS => ?_)
        rcases f_bx_some hF with ⟨v6, z6, hc6, hF⟩ | ⟨v6, z6, hc6, hF⟩
        · skip
          refine hw_SR (As := [.int v5]) (rest := []) hx hb hml hown hts (c_b_require_ok l hl0 hLi v5  _ _ _ hc6) st_b_62 hK hZ hsz hS hW rfl hl.1 (Nat.le_of_ble_eq_true rfl) d_b_kind_24 (by omega) (by omega) (by omega) (by omega) (fun H locs hW hS => ?_)
          refine lv_iload_n hx hb d_b_kind_27 rfl (lv_at hl 3 rfl) ?_
          refine lv_iconst (v := 1) hx hb d_b_kind_28 (by decide) ?_
          refine lv_sipush (v := 500) hx hb d_b_kind_29 (by decide) ?_
          obtain ⟨v7, z7, hc7, hF⟩ := f_bd_some hF
          refine hw_SR (As := [.int a3, .int 1, .int 500]) (rest := []) hx hb hml hown hts (c_b_isWithin_ok l hl0 hLi a3 1 500  _ _ _ hc7) st_b_66 hK hZ hsz hS hW rfl hl.1 (Nat.le_of_ble_eq_true rfl) d_b_kind_32 (by omega) (by omega) (by omega) (by omega) (fun H locs hW hS => ?_)
          rcases f_bx_some hF with ⟨v8, z8, hc8, hF⟩ | ⟨v8, z8, hc8, hF⟩
          · skip
            refine hw_SR (As := [.int v7]) (rest := []) hx hb hml hown hts (c_b_require_ok l hl0 hLi v7  _ _ _ hc8) st_b_62 hK hZ hsz hS hW rfl hl.1 (Nat.le_of_ble_eq_true rfl) d_b_kind_35 (by omega) (by omega) (by omega) (by omega) (fun H locs hW hS => ?_)
            refine lv_iload hx hb d_b_kind_38 (lv_at hl 4 rfl) ?_
            refine lv_iconst (v := 3) hx hb d_b_kind_40 (by decide) ?_
            obtain ⟨v9, z9, hc9, hF⟩ := f_bd_some hF
            refine hw_SR (As := [.int a4, .int 3]) (rest := []) hx hb hml hown hts (c_b_isIndex_ok l hl0 hLi a4 3  _ _ _ hc9) st_b_58 hK hZ hsz hS hW rfl hl.1 (Nat.le_of_ble_eq_true rfl) d_b_kind_41 (by omega) (by omega) (by omega) (by omega) (fun H locs hW hS => ?_)
            rcases f_bx_some hF with ⟨v10, z10, hc10, hF⟩ | ⟨v10, z10, hc10, hF⟩
            · skip
              refine hw_SR (As := [.int v9]) (rest := []) hx hb hml hown hts (c_b_require_ok l hl0 hLi v9  _ _ _ hc10) st_b_62 hK hZ hsz hS hW rfl hl.1 (Nat.le_of_ble_eq_true rfl) d_b_kind_44 (by omega) (by omega) (by omega) (by omega) (fun H locs hW hS => ?_)
              refine lv_iload hx hb d_b_kind_47 (lv_at hl 6 rfl) ?_
              refine lv_iconst (v := 0) hx hb d_b_kind_49 (by decide) ?_
              refine lv_sipush (v := 5000) hx hb d_b_kind_50 (by decide) ?_
              obtain ⟨v11, z11, hc11, hF⟩ := f_bd_some hF
              refine hw_SR (As := [.int a6, .int 0, .int 5000]) (rest := []) hx hb hml hown hts (c_b_isWithin_ok l hl0 hLi a6 0 5000  _ _ _ hc11) st_b_66 hK hZ hsz hS hW rfl hl.1 (Nat.le_of_ble_eq_true rfl) d_b_kind_53 (by omega) (by omega) (by omega) (by omega) (fun H locs hW hS => ?_)
              rcases f_bx_some hF with ⟨v12, z12, hc12, hF⟩ | ⟨v12, z12, hc12, hF⟩
              · skip
                refine hw_SR (As := [.int v11]) (rest := []) hx hb hml hown hts (c_b_require_ok l hl0 hLi v11  _ _ _ hc12) st_b_62 hK hZ hsz hS hW rfl hl.1 (Nat.le_of_ble_eq_true rfl) d_b_kind_56 (by omega) (by omega) (by omega) (by omega) (fun H locs hW hS => ?_)
                refine lv_iload hx hb d_b_kind_59 (lv_at hl 5 rfl) ?_
                refine lv_iconst (v := 0) hx hb d_b_kind_61 (by decide) ?_
                refine lv_iload hx hb d_b_kind_62 (lv_at hl 6 rfl) ?_
                obtain ⟨v13, z13, hc13, hF⟩ := f_bd_some hF
                refine hw_SR (As := [.int a5, .int 0, .int a6]) (rest := []) hx hb hml hown hts (c_b_isWithin_ok l hl0 hLi a5 0 a6  _ _ _ hc13) st_b_66 hK hZ hsz hS hW rfl hl.1 (Nat.le_of_ble_eq_true rfl) d_b_kind_64 (by omega) (by omega) (by omega) (by omega) (fun H locs hW hS => ?_)
                rcases f_bx_some hF with ⟨v14, z14, hc14, hF⟩ | ⟨v14, z14, hc14, hF⟩
                · skip
                  refine hw_SR (As := [.int v13]) (rest := []) hx hb hml hown hts (c_b_require_ok l hl0 hLi v13  _ _ _ hc14) st_b_62 hK hZ hsz hS hW rfl hl.1 (Nat.le_of_ble_eq_true rfl) d_b_kind_67 (by omega) (by omega) (by omega) (by omega) (fun H locs hW hS => ?_)
                  refine lv_iload hx hb d_b_kind_70 (lv_at hl 7 rfl) ?_
                  refine lv_bipush (v := 8) hx hb d_b_kind_72 (by decide) ?_
                  obtain ⟨v15, z15, hc15, hF⟩ := f_bd_some hF
                  refine hw_SR (As := [.int a7, .int 8]) (rest := []) hx hb hml hown hts (c_b_isIndex_ok l hl0 hLi a7 8  _ _ _ hc15) st_b_58 hK hZ hsz hS hW rfl hl.1 (Nat.le_of_ble_eq_true rfl) d_b_kind_74 (by omega) (by omega) (by omega) (by omega) (fun H locs hW hS => ?_)
                  rcases f_bx_some hF with ⟨v16, z16, hc16, hF⟩ | ⟨v16, z16, hc16, hF⟩
                  · skip
                    refine hw_SR (As := [.int v15]) (rest := []) hx hb hml hown hts (c_b_require_ok l hl0 hLi v15  _ _ _ hc16) st_b_62 hK hZ hsz hS hW rfl hl.1 (Nat.le_of_ble_eq_true rfl) d_b_kind_77 (by omega) (by omega) (by omega) (by omega) (fun H locs hW hS => ?_)
                    refine lv_aload_n hx hb d_b_kind_80 rfl (lv_at hl 0 rfl) ?_
                    refine hw_get (k := 0) (i := 0) (n := 1) (j := 0) (v := .ref (L 1 0)) hx hb hts hown hK hW fl_b_12 rfl (by omega) rfl d_b_kind_81 ?_
                    refine lv_iload_n hx hb d_b_kind_84 rfl (lv_at hl 2 rfl) ?_
                    obtain ⟨v17, z17, hc17, hF⟩ := f_bd_some hF
                    refine hw_VR (k := 1) (i := 0) (nk := 1) (As := [.int a2]) (rest := []) hx hb hml hown hts (c_ca_kindWith_ok l hl0 hLi a2  _ _ _ hc17) st_b_78 (by decide) rfl (by omega) rfl rfl hK hZ hsz hS hW rfl hl.1 (Nat.le_of_ble_eq_true rfl) d_b_kind_85 (by omega) (by omega) (by omega) (by omega) (fun H locs hW hS => ?_)
                    refine lv_istore (lv' := [(8, .int v17), (0, .ref (L 0 0)), (1, .int a1), (2, .int a2), (3, .int a3), (4, .int a4), (5, .int a5), (6, .int a6), (7, .int a7)]) hx hb d_b_kind_88 hl (by decide) rfl (fun ls hl => ?_)
                    refine lv_aload_n hx hb d_b_kind_90 rfl (lv_at hl 1 rfl) ?_
                    refine hw_get (k := 0) (i := 0) (n := 1) (j := 0) (v := .ref (L 1 0)) hx hb hts hown hK hW fl_b_12 rfl (by omega) rfl d_b_kind_91 ?_
                    refine lv_iload hx hb d_b_kind_94 (lv_at hl 0 rfl) ?_
                    obtain ⟨v18, z18, hc18, hF⟩ := f_bd_some hF
                    refine hw_VR (k := 1) (i := 0) (nk := 1) (As := [.int v17]) (rest := []) hx hb hml hown hts (c_ca_dropCode_ok l hl0 hLi v17  _ _ _ hc18) st_b_82 (by decide) rfl (by omega) rfl rfl hK hZ hsz hS hW rfl hl.1 (Nat.le_of_ble_eq_true rfl) d_b_kind_96 (by omega) (by omega) (by omega) (by omega) (fun H locs hW hS => ?_)
                    refine lv_aload_n hx hb d_b_kind_99 rfl (lv_at hl 1 rfl) ?_
                    refine hw_get (k := 0) (i := 0) (n := 1) (j := 0) (v := .ref (L 1 0)) hx hb hts hown hK hW fl_b_12 rfl (by omega) rfl d_b_kind_100 ?_
                    refine lv_iload_n hx hb d_b_kind_103 rfl (lv_at hl 2 rfl) ?_
                    refine lv_iload_n hx hb d_b_kind_104 rfl (lv_at hl 3 rfl) ?_
                    refine lv_iload_n hx hb d_b_kind_105 rfl (lv_at hl 4 rfl) ?_
                    refine lv_iload hx hb d_b_kind_106 (lv_at hl 5 rfl) ?_
                    refine lv_iload hx hb d_b_kind_108 (lv_at hl 6 rfl) ?_
                    refine lv_iload hx hb d_b_kind_110 (lv_at hl 7 rfl) ?_
                    refine lv_iload hx hb d_b_kind_112 (lv_at hl 8 rfl) ?_
                    obtain ⟨v19, z19, hc19, hF⟩ := f_bd_some hF
                    refine hw_VR (k := 1) (i := 0) (nk := 1) (As := [.int a1, .int a2, .int a3, .int a4, .int a5, .int a6, .int a7]) (rest := []) hx hb hml hown hts (c_ca_setKind_ok l hl0 hLi a1 a2 a3 a4 a5 a6 a7  _ _ _ hc19) st_b_86 (by decide) rfl (by omega) rfl rfl hK hZ hsz hS hW rfl hl.1 (Nat.le_of_ble_eq_true rfl) d_b_kind_114 (by omega) (by omega) (by omega) (by omega) (fun H locs hW hS => ?_)
                    refine lv_iload hx hb d_b_kind_117 (lv_at hl 0 rfl) ?_
                    exact hw_iretX hx hb hr hlk (vp_nar_int _) hW hS (by omega) (by omega) d_b_kind_119 hF
                  · cases hF
                    exact hw_SX (As := [.int v15]) (rest := []) hx hb hml hown hts (c_b_require_ok l hl0 hLi v15  _ _ _ hc16) st_b_62 hK hZ hsz hS hW rfl hl.1 (Nat.le_of_ble_eq_true rfl) d_b_kind_77 (by omega) (by omega) (by omega) (by omega) (fun q ce H locs hW hS hq hv hcl => hw_out (fun x hx => (hno x hx).elim) hlk hW hS hq hv hcl (by omega) (by omega))
                · cases hF
                  exact hw_SX (As := [.int v13]) (rest := []) hx hb hml hown hts (c_b_require_ok l hl0 hLi v13  _ _ _ hc14) st_b_62 hK hZ hsz hS hW rfl hl.1 (Nat.le_of_ble_eq_true rfl) d_b_kind_67 (by omega) (by omega) (by omega) (by omega) (fun q ce H locs hW hS hq hv hcl => hw_out (fun x hx => (hno x hx).elim) hlk hW hS hq hv hcl (by omega) (by omega))
              · cases hF
                exact hw_SX (As := [.int v11]) (rest := []) hx hb hml hown hts (c_b_require_ok l hl0 hLi v11  _ _ _ hc12) st_b_62 hK hZ hsz hS hW rfl hl.1 (Nat.le_of_ble_eq_true rfl) d_b_kind_56 (by omega) (by omega) (by omega) (by omega) (fun q ce H locs hW hS hq hv hcl => hw_out (fun x hx => (hno x hx).elim) hlk hW hS hq hv hcl (by omega) (by omega))
            · cases hF
              exact hw_SX (As := [.int v9]) (rest := []) hx hb hml hown hts (c_b_require_ok l hl0 hLi v9  _ _ _ hc10) st_b_62 hK hZ hsz hS hW rfl hl.1 (Nat.le_of_ble_eq_true rfl) d_b_kind_44 (by omega) (by omega) (by omega) (by omega) (fun q ce H locs hW hS hq hv hcl => hw_out (fun x hx => (hno x hx).elim) hlk hW hS hq hv hcl (by omega) (by omega))
          · cases hF
            exact hw_SX (As := [.int v7]) (rest := []) hx hb hml hown hts (c_b_require_ok l hl0 hLi v7  _ _ _ hc8) st_b_62 hK hZ hsz hS hW rfl hl.1 (Nat.le_of_ble_eq_true rfl) d_b_kind_35 (by omega) (by omega) (by omega) (by omega) (fun q ce H locs hW hS hq hv hcl => hw_out (fun x hx => (hno x hx).elim) hlk hW hS hq hv hcl (by omega) (by omega))
        · cases hF
          exact hw_SX (As := [.int v5]) (rest := []) hx hb hml hown hts (c_b_require_ok l hl0 hLi v5  _ _ _ hc6) st_b_62 hK hZ hsz hS hW rfl hl.1 (Nat.le_of_ble_eq_true rfl) d_b_kind_24 (by omega) (by omega) (by omega) (by omega) (fun q ce H locs hW hS hq hv hcl => hw_out (fun x hx => (hno x hx).elim) hlk hW hS hq hv hcl (by omega) (by omega))
      · cases hF
        exact hw_SX (As := [.int v3]) (rest := []) hx hb hml hown hts (c_b_require_ok l hl0 hLi v3  _ _ _ hc4) st_b_62 hK hZ hsz hS hW rfl hl.1 (Nat.le_of_ble_eq_true rfl) d_b_kind_14 (by omega) (by omega) (by omega) (by omega) (fun q ce H locs hW hS hq hv hcl => hw_out (fun x hx => (hno x hx).elim) hlk hW hS hq hv hcl (by omega) (by omega))
    · cases hF
      exact hw_VX (k := 0) (i := 0) (nk := 1) (As := []) (rest := []) hx hb hml hown hts (c_b_requireEmptyBelt_ok l hl0 hLi   _ _ _ hc2) st_b_74 (by decide) rfl (by omega) rfl rfl hK hZ hsz hS hW rfl hl.1 (Nat.le_of_ble_eq_true rfl) d_b_kind_5 (by omega) (by omega) (by omega) (by omega) (fun q ce H locs hW hS hq hv hcl => hw_out (fun x hx => (hno x hx).elim) hlk hW hS hq hv hcl (by omega) (by omega))
  · cases hF
    exact hw_VX (k := 0) (i := 0) (nk := 1) (As := []) (rest := []) hx hb hml hown hts (c_b_requireOn_ok l hl0 hLi   _ _ _ hc1) st_b_55 (by decide) rfl (by omega) rfl rfl hK hZ hsz hS hW rfl hl.1 (Nat.le_of_ble_eq_true rfl) d_b_kind_1 (by omega) (by omega) (by omega) (by omega) (fun q ce H locs hW hS hq hv hcl => hw_out (fun x hx => (hno x hx).elim) hlk hW hS hq hv hcl (by omega) (by omega))
set_option maxRecDepth 100000 in
set_option maxHeartbeats 4000000 in
theorem c_co_rear_ok (l : Launch) (hl0 : l.stackTraces = false) {L : Nat → Nat → Nat} {Ar : Nat → ClassId} {D : va_G} {b0 : Nat} (hLi : f_L L b0) (a0 : Nat) (h_a0 : a0 < 16) (z : fST) (r : Int32) (z' : fST) (hF : F_co_rear a0 z = some (r, z')) : f_C l y_co_rear wt 1 0 L Ar D b0 [.ref (L 13 a0)] z (.inl (some (.int r))) z' := by
  refine f_ofW (cc := c_co_rear) (maxL := 1) (ret := (some FieldType.int)) (by decide) w_co_rear (Nat.le_of_ble_eq_true rfl) ?_
  intro p e s m args below meth c R hRf hRl hRc hRs hx hb hr hlk hml hno hts hown hK hZ hsz
  intro H locs ls cells slots hW hS hl hc hs
  have hl : lv_has ls 1 [(0, .ref (L 13 a0))] := hl
  unfold F_co_rear at hF
  refine lv_aload_n hx hb d_co_rear_0 rfl (lv_at hl 0 rfl) ?_
  refine hw_get (k := 13) (i := a0) (n := 16) (j := 4) (v := .int (f_gI z 13 a0 4)) hx hb hts hown hK hW fl_co_30 rfl (by omega) rfl d_co_rear_1 ?_
  refine lv_aload_n hx hb d_co_rear_4 rfl (lv_at hl 0 rfl) ?_
  refine hw_get (k := 13) (i := a0) (n := 16) (j := 3) (v := .int (f_gI z 13 a0 3)) hx hb hts hown hK hW fl_co_27 rfl (by omega) rfl d_co_rear_5 ?_
  refine lv_isub hx hb d_co_rear_8 ?_
  exact hw_iret hx hb hr hlk (vp_nar_int _) hW hS (by omega) (by omega) d_co_rear_9 hF
set_option maxRecDepth 100000 in
set_option maxHeartbeats 4000000 in
theorem c_co_forget_ok (l : Launch) (hl0 : l.stackTraces = false) {L : Nat → Nat → Nat} {Ar : Nat → ClassId} {D : va_G} {b0 : Nat} (hLi : f_L L b0) (a0 : Nat) (h_a0 : a0 < 16) (z : fST) (r : Unit) (z' : fST) (hF : F_co_forget a0 z = some (r, z')) : f_C l y_co_forget wt 1 0 L Ar D b0 [.ref (L 13 a0)] z (.inl none) z' := by
  refine f_ofW (cc := c_co_forget) (maxL := 1) (ret := (Option.none : Option Jvm.ClassFile.FieldType)) (by decide) w_co_forget (Nat.le_of_ble_eq_true rfl) ?_
  intro p e s m args below meth c R hRf hRl hRc hRs hx hb hr hlk hml hno hts hown hK hZ hsz
  intro H locs ls cells slots hW hS hl hc hs
  have hl : lv_has ls 1 [(0, .ref (L 13 a0))] := hl
  unfold F_co_forget at hF
  refine lv_aload_n hx hb d_co_forget_0 rfl (lv_at hl 0 rfl) ?_
  refine hw_get (k := 13) (i := a0) (n := 16) (j := 0) (v := .ref (L 14 a0)) hx hb hts hown hK hW fl_co_14 rfl (by omega) rfl d_co_forget_1 ?_
  refine lv_iconst (v := 0) hx hb d_co_forget_4 (by decide) ?_
  refine hw_put (k := 14) (i := a0) (n := 32) (j := 1) (v := 0) hx hb hts hown hK hLi hW hS fp_co_40 (vp_nar_int _) rfl rfl (by omega) d_co_forget_5 (fun H locs hW hS => ?_)
  refine lv_aload_n hx hb d_co_forget_8 rfl (lv_at hl 0 rfl) ?_
  refine hw_get (k := 13) (i := a0) (n := 16) (j := 1) (v := .ref (L 14 (a0 + 16))) hx hb hts hown hK hW fl_co_20 rfl (by omega) rfl d_co_forget_9 ?_
  refine lv_iconst (v := 0) hx hb d_co_forget_12 (by decide) ?_
  refine hw_put (k := 14) (i := a0 + 16) (n := 32) (j := 1) (v := 0) hx hb hts hown hK hLi hW hS fp_co_40 (vp_nar_int _) rfl rfl (by omega) d_co_forget_13 (fun H locs hW hS => ?_)
  refine lv_aload_n hx hb d_co_forget_16 rfl (lv_at hl 0 rfl) ?_
  refine lv_iconst (v := (-1)) hx hb d_co_forget_17 (by decide) ?_
  refine hw_put (k := 13) (i := a0) (n := 16) (j := 5) (v := (-1)) hx hb hts hown hK hLi hW hS fp_co_43 (vp_nar_int _) rfl rfl (by omega) d_co_forget_18 (fun H locs hW hS => ?_)
  refine lv_aload_n hx hb d_co_forget_21 rfl (lv_at hl 0 rfl) ?_
  refine lv_iconst (v := 0) hx hb d_co_forget_22 (by decide) ?_
  refine hw_put (k := 13) (i := a0) (n := 16) (j := 6) (v := 0) hx hb hts hown hK hLi hW hS fp_co_46 (vp_nar_int _) rfl rfl (by omega) d_co_forget_23 (fun H locs hW hS => ?_)
  refine lv_aload_n hx hb d_co_forget_26 rfl (lv_at hl 0 rfl) ?_
  refine lv_iconst (v := (-1)) hx hb d_co_forget_27 (by decide) ?_
  refine hw_put (k := 13) (i := a0) (n := 16) (j := 7) (v := (-1)) hx hb hts hown hK hLi hW hS fp_co_49 (vp_nar_int _) rfl rfl (by omega) d_co_forget_28 (fun H locs hW hS => ?_)
  exact hw_vret hx hb hr hlk hW hS (by omega) (by omega) d_co_forget_31 hF
set_option maxRecDepth 100000 in
set_option maxHeartbeats 4000000 in
theorem c_co_begin_ok (l : Launch) (hl0 : l.stackTraces = false) {L : Nat → Nat → Nat} {Ar : Nat → ClassId} {D : va_G} {b0 : Nat} (hLi : f_L L b0) (a0 : Nat) (a1 : Int32) (a2 : Int32) (h_a0 : a0 < 16) (z : fST) (r : Unit) (z' : fST) (hF : F_co_begin a0 a1 a2 z = some (r, z')) : f_C l y_co_begin wt 2 0 L Ar D b0 [.ref (L 13 a0), .int a1, .int a2] z (.inl none) z' := by
  refine f_ofW (cc := c_co_begin) (maxL := 3) (ret := (Option.none : Option Jvm.ClassFile.FieldType)) (by decide) w_co_begin (Nat.le_of_ble_eq_true rfl) ?_
  intro p e s m args below meth c R hRf hRl hRc hRs hx hb hr hlk hml hno hts hown hK hZ hsz
  intro H locs ls cells slots hW hS hl hc hs
  have hl : lv_has ls 3 [(0, .ref (L 13 a0)), (1, .int a1), (2, .int a2)] := hl
  unfold F_co_begin at hF
  refine lv_aload_n hx hb d_co_begin_0 rfl (lv_at hl 0 rfl) ?_
  refine lv_iload_n hx hb d_co_begin_1 rfl (lv_at hl 1 rfl) ?_
  refine hw_put (k := 13) (i := a0) (n := 16) (j := 2) (v := a1) hx hb hts hown hK hLi hW hS fp_co_23 (vp_nar_int _) rfl rfl (by omega) d_co_begin_2 (fun H locs hW hS => ?_)
  refine lv_aload_n hx hb d_co_begin_5 rfl (lv_at hl 0 rfl) ?_
  refine lv_iload_n hx hb d_co_begin_6 rfl (lv_at hl 2 rfl) ?_
  refine hw_put (k := 13) (i := a0) (n := 16) (j := 3) (v := a2) hx hb hts hown hK hLi hW hS fp_co_27 (vp_nar_int _) rfl rfl (by omega) d_co_begin_7 (fun H locs hW hS => ?_)
  refine lv_aload_n hx hb d_co_begin_10 rfl (lv_at hl 0 rfl) ?_
  refine lv_iconst (v := 0) hx hb d_co_begin_11 (by decide) ?_
  refine hw_put (k := 13) (i := a0) (n := 16) (j := 4) (v := 0) hx hb hts hown hK hLi hW hS fp_co_30 (vp_nar_int _) rfl rfl (by omega) d_co_begin_12 (fun H locs hW hS => ?_)
  refine lv_aload_n hx hb d_co_begin_15 rfl (lv_at hl 0 rfl) ?_
  refine lv_iconst (v := 0) hx hb d_co_begin_16 (by decide) ?_
  refine hw_put (k := 13) (i := a0) (n := 16) (j := 8) (v := 0) hx hb hts hown hK hLi hW hS fp_co_33 (f_nZ (Or.inl rfl)) (f_fZ _ (Or.inl rfl)) rfl (by omega) d_co_begin_17 (fun H locs hW hS => ?_)
  refine lv_aload_n hx hb d_co_begin_20 rfl (lv_at hl 0 rfl) ?_
  obtain ⟨v1, z1, hc1, hF⟩ := f_bd_some hF
  refine hw_VR (k := 13) (i := a0) (nk := 16) (As := []) (rest := []) hx hb hml hown hts (c_co_forget_ok l hl0 hLi a0 (by omega) _ _ _ hc1) st_co_37 (by decide) rfl (by omega) rfl rfl hK hZ hsz hS hW rfl hl.1 (Nat.le_of_ble_eq_true rfl) d_co_begin_21 (by omega) (by omega) (by omega) (by omega) (fun H locs hW hS => ?_)
  exact hw_vret hx hb hr hlk hW hS (by omega) (by omega) d_co_begin_24 hF
set_option maxRecDepth 100000 in
set_option maxHeartbeats 4000000 in
theorem c_be_putIn_ok (l : Launch) (hl0 : l.stackTraces = false) {L : Nat → Nat → Nat} {Ar : Nat → ClassId} {D : va_G} {b0 : Nat} (hLi : f_L L b0) (a1 : Int32)  (z : fST) (r : Int32) (z' : fST) (hF : F_be_putIn a1 z = some (r, z')) : f_C l y_be_putIn wt 3 0 L Ar D b0 [.ref (L 11 0), .int a1] z (.inl (some (.int r))) z' := by
  refine f_ofW (cc := c_be_putIn) (maxL := 2) (ret := (some FieldType.int)) (by decide) w_be_putIn (Nat.le_of_ble_eq_true rfl) ?_
  intro p e s m args below meth c R hRf hRl hRc hRs hx hb hr hlk hml hno hts hown hK hZ hsz
  have B41 : ∀  (x1 : Int32) (z : fST), b_be_putIn_41  x1 z = some (r, z') →  f_B p l e R s m args below meth c L Ar D b0 2 0 (f_E below args s L Ar D b0 0 (.inl (some (.int r))) z') 0 41 [(0, .ref (L 11 0)), (1, .int x1)] [] z := by
    intro  x1 z hF  H locs ls cells slots hW hS hl hc hs
    unfold b_be_putIn_41 at hF
    refine lv_aload_n hx hb d_be_putIn_41 rfl (lv_at hl 0 rfl) ?_
    refine lv_dup hx hb d_be_putIn_42 rfl ?_
    refine hw_get (k := 11) (i := 0) (n := 1) (j := 2) (v := .int (f_gI z 11 0 2)) hx hb hts hown hK hW fl_be_26 rfl (by omega) rfl d_be_putIn_43 ?_
    refine lv_iconst (v := 1) hx hb d_be_putIn_46 (by decide) ?_
    refine lv_iadd hx hb d_be_putIn_47 ?_
    refine hw_put (k := 11) (i := 0) (n := 1) (j := 2) (v := (f_gI z 11 0 2) + 1) hx hb hts hown hK hLi hW hS fp_be_26 (vp_nar_int _) rfl rfl (by omega) d_be_putIn_48 (fun H locs hW hS => ?_)
    refine lv_aload_n hx hb d_be_putIn_51 rfl (lv_at hl 0 rfl) ?_
    refine hw_get (k := 11) (i := 0) (n := 1) (j := 0) (v := .ref (L 12 0)) hx hb hts hown hK hW fl_be_11 rfl (by omega) rfl d_be_putIn_52 ?_
    refine lv_aload_n hx hb d_be_putIn_55 rfl (lv_at hl 0 rfl) ?_
    refine hw_get (k := 11) (i := 0) (n := 1) (j := 1) (v := .int (f_gI (f_pI z 11 0 2 ((f_gI z 11 0 2) + 1)) 11 0 1)) hx hb hts hown hK hW fl_be_18 rfl (by omega) rfl d_be_putIn_56 ?_
    obtain ⟨g7, hF⟩ := f_gd_some hF
    obtain ⟨g8, hF⟩ := f_gd_some hF
    have g8 := of_decide_eq_true g8
    refine hw_rald hx hb hK hW g7 d_be_putIn_59 ?_
    refine lv_aload_n hx hb d_be_putIn_60 rfl (lv_at hl 0 rfl) ?_
    refine hw_get (k := 11) (i := 0) (n := 1) (j := 2) (v := .int (f_gI (f_pI z 11 0 2 ((f_gI z 11 0 2) + 1)) 11 0 2)) hx hb hts hown hK hW fl_be_26 rfl (by omega) rfl d_be_putIn_61 ?_
    refine lv_iload_n hx hb d_be_putIn_64 rfl (lv_at hl 1 rfl) ?_
    obtain ⟨v9, z9, hc9, hF⟩ := f_bd_some hF
    refine hw_VR (k := 13) (i := f_gR (f_pI z 11 0 2 ((f_gI z 11 0 2) + 1)) (f_ix (f_gI (f_pI z 11 0 2 ((f_gI z 11 0 2) + 1)) 11 0 1))) (nk := 16) (As := [.int (f_gI (f_pI z 11 0 2 ((f_gI z 11 0 2) + 1)) 11 0 2), .int x1]) (rest := []) hx hb hml hown hts (c_co_begin_ok l hl0 hLi (f_gR (f_pI z 11 0 2 ((f_gI z 11 0 2) + 1)) (f_ix (f_gI (f_pI z 11 0 2 ((f_gI z 11 0 2) + 1)) 11 0 1))) (f_gI (f_pI z 11 0 2 ((f_gI z 11 0 2) + 1)) 11 0 2) x1 (by omega) _ _ _ hc9) st_be_29 (by decide) rfl (by omega) rfl rfl hK hZ hsz hS hW rfl hl.1 (Nat.le_of_ble_eq_true rfl) d_be_putIn_65 (by omega) (by omega) (by omega) (by omega) (fun H locs hW hS => ?_)
    refine lv_aload_n hx hb d_be_putIn_68 rfl (lv_at hl 0 rfl) ?_
    refine lv_dup hx hb d_be_putIn_69 rfl ?_
    refine hw_get (k := 11) (i := 0) (n := 1) (j := 1) (v := .int (f_gI z9 11 0 1)) hx hb hts hown hK hW fl_be_18 rfl (by omega) rfl d_be_putIn_70 ?_
    refine lv_iconst (v := 1) hx hb d_be_putIn_73 (by decide) ?_
    refine lv_iadd hx hb d_be_putIn_74 ?_
    refine hw_put (k := 11) (i := 0) (n := 1) (j := 1) (v := (f_gI z9 11 0 1) + 1) hx hb hts hown hK hLi hW hS fp_be_18 (vp_nar_int _) rfl rfl (by omega) d_be_putIn_75 (fun H locs hW hS => ?_)
    refine lv_aload_n hx hb d_be_putIn_78 rfl (lv_at hl 0 rfl) ?_
    refine hw_get (k := 11) (i := 0) (n := 1) (j := 2) (v := .int (f_gI (f_pI z9 11 0 1 ((f_gI z9 11 0 1) + 1)) 11 0 2)) hx hb hts hown hK hW fl_be_26 rfl (by omega) rfl d_be_putIn_79 ?_
    exact hw_iret hx hb hr hlk (vp_nar_int _) hW hS (by omega) (by omega) d_be_putIn_82 hF
  intro H locs ls cells slots hW hS hl hc hs
  have hl : lv_has ls 2 [(0, .ref (L 11 0)), (1, .int a1)] := hl
  unfold F_be_putIn at hF
  refine lv_aload_n hx hb d_be_putIn_0 rfl (lv_at hl 0 rfl) ?_
  refine hw_get (k := 11) (i := 0) (n := 1) (j := 1) (v := .int (f_gI z 11 0 1)) hx hb hts hown hK hW fl_be_18 rfl (by omega) rfl d_be_putIn_1 ?_
  refine lv_aload_n hx hb d_be_putIn_4 rfl (lv_at hl 0 rfl) ?_
  refine hw_get (k := 11) (i := 0) (n := 1) (j := 0) (v := .ref (L 12 0)) hx hb hts hown hK hW fl_be_11 rfl (by omega) rfl d_be_putIn_5 ?_
  refine hw_rlen hx hb hK hW d_be_putIn_8 ?_
  refine lv_icmp_lt (tgt := 14) hx hb d_be_putIn_9 (by decide) (fun h1 => ?_) (fun h1 => ?_)
  · replace hF := (if_pos h1).symm.trans hF
    refine lv_aload_n hx hb d_be_putIn_14 rfl (lv_at hl 0 rfl) ?_
    refine hw_get (k := 11) (i := 0) (n := 1) (j := 1) (v := .int (f_gI z 11 0 1)) hx hb hts hown hK hW fl_be_18 rfl (by omega) rfl d_be_putIn_15 ?_
    refine lv_if_le (tgt := 41) hx hb d_be_putIn_18 (by decide) (fun h2 => ?_) (fun h2 => ?_)
    · replace hF := (if_pos h2).symm.trans hF
      exact B41 a1 z hF _ _ _ _ _ hW hS (lv_sub hl [0, 1] rfl) (by omega) (by omega)
    · replace hF := (if_neg h2).symm.trans hF
      refine lv_aload_n hx hb d_be_putIn_21 rfl (lv_at hl 0 rfl) ?_
      refine hw_get (k := 11) (i := 0) (n := 1) (j := 0) (v := .ref (L 12 0)) hx hb hts hown hK hW fl_be_11 rfl (by omega) rfl d_be_putIn_22 ?_
      refine lv_aload_n hx hb d_be_putIn_25 rfl (lv_at hl 0 rfl) ?_
      refine hw_get (k := 11) (i := 0) (n := 1) (j := 1) (v := .int (f_gI z 11 0 1)) hx hb hts hown hK hW fl_be_18 rfl (by omega) rfl d_be_putIn_26 ?_
      refine lv_iconst (v := 1) hx hb d_be_putIn_29 (by decide) ?_
      refine lv_isub hx hb d_be_putIn_30 ?_
      obtain ⟨g3, hF⟩ := f_gd_some hF
      obtain ⟨g4, hF⟩ := f_gd_some hF
      have g4 := of_decide_eq_true g4
      refine hw_rald hx hb hK hW g3 d_be_putIn_31 ?_
      obtain ⟨v5, z5, hc5, hF⟩ := f_bd_some hF
      refine hw_VR (k := 13) (i := f_gR z (f_ix ((f_gI z 11 0 1) - 1))) (nk := 16) (As := []) (rest := []) hx hb hml hown hts (c_co_rear_ok l hl0 hLi (f_gR z (f_ix ((f_gI z 11 0 1) - 1))) (by omega) _ _ _ hc5) st_be_22 (by decide) rfl (by omega) rfl rfl hK hZ hsz hS hW rfl hl.1 (Nat.le_of_ble_eq_true rfl) d_be_putIn_32 (by omega) (by omega) (by omega) (by omega) (fun H locs hW hS => ?_)
      refine lv_iconst (v := 4) hx hb d_be_putIn_35 (by decide) ?_
      refine lv_icmp_ge (tgt := 41) hx hb d_be_putIn_36 (by decide) (fun h6 => ?_) (fun h6 => ?_)
      · replace hF := (if_pos h6).symm.trans hF
        exact B41 a1 z5 hF _ _ _ _ _ hW hS (lv_sub hl [0, 1] rfl) (by omega) (by omega)
      · replace hF := (if_neg h6).symm.trans hF
        refine lv_iconst (v := 0) hx hb d_be_putIn_39 (by decide) ?_
        exact hw_iret hx hb hr hlk (vp_nar_int _) hW hS (by omega) (by omega) d_be_putIn_40 hF
  · replace hF := (if_neg h1).symm.trans hF
    refine lv_iconst (v := 0) hx hb d_be_putIn_12 (by decide) ?_
    exact hw_iret hx hb hr hlk (vp_nar_int _) hW hS (by omega) (by omega) d_be_putIn_13 hF
set_option maxRecDepth 100000 in
set_option maxHeartbeats 4000000 in
theorem c_b_enter_ok (l : Launch) (hl0 : l.stackTraces = false) {L : Nat → Nat → Nat} {Ar : Nat → ClassId} {D : va_G} {b0 : Nat} (hLi : f_L L b0) (a1 : Int32)  (z : fST) (r : Int32 ⊕ Nat) (z' : fST) (hF : F_b_enter a1 z = some (r, z')) : f_C l y_b_enter wt 8 2 L Ar D b0 [.ref (L 0 0), .int a1] z (f_oi r) z' := by
  refine f_ofW (cc := c_b_enter) (maxL := 2) (ret := (some FieldType.int)) (by decide) w_b_enter (Nat.le_of_ble_eq_true rfl) ?_
  intro p e s m args below meth c R hRf hRl hRc hRs hx hb hr hlk hml hno hts hown hK hZ hsz
  intro H locs ls cells slots hW hS hl hc hs
  have hl : lv_has ls 2 [(0, .ref (L 0 0)), (1, .int a1)] := hl
  unfold F_b_enter at hF
  refine lv_aload_n hx hb d_b_enter_0 rfl (lv_at hl 0 rfl) ?_
  rcases f_bx_some hF with ⟨v1, z1, hc1, hF⟩ | ⟨v1, z1, hc1, hF⟩
  · skip
    refine hw_VR (k := 0) (i := 0) (nk := 1) (As := []) (rest := []) hx hb hml hown hts (c_b_requireOn_ok l hl0 hLi   _ _ _ hc1) st_b_55 (by decide) rfl (by omega) rfl rfl hK hZ hsz hS hW rfl hl.1 (Nat.le_of_ble_eq_true rfl) d_b_enter_1 (by omega) (by omega) (by omega) (by omega) (fun H locs hW hS => ?_)
    refine lv_iload_n hx hb d_b_enter_4 rfl (lv_at hl 1 rfl) ?_
    refine lv_iconst (v := 5) hx hb d_b_enter_5 (by decide) ?_
    refine lv_bipush (v := 40) hx hb d_b_enter_6 (by decide) ?_
    obtain ⟨v2, z2, hc2, hF⟩ := f_bd_some hF
    refine hw_SR (As := [.int a1, .int 5, .int 40]) (rest := []) hx hb hml hown hts (c_b_isWithin_ok l hl0 hLi a1 5 40  _ _ _ hc2) st_b_66 hK hZ hsz hS hW rfl hl.1 (Nat.le_of_ble_eq_true rfl) d_b_enter_8 (by omega) (by omega) (by omega) (by omega) (fun H locs hW hS => ?_)
    rcases f_bx_some hF with ⟨v3, z3, hc3, hF⟩ | ⟨v3, z3, hc3, hF⟩
    · skip
      refine hw_SR (As := [.int v2]) (rest := []) hx hb hml hown hts (c_b_require_ok l hl0 hLi v2  _ _ _ hc3) st_b_62 hK hZ hsz hS hW rfl hl.1 (Nat.le_of_ble_eq_true rfl) d_b_enter_11 (by omega) (by omega) (by omega) (by omega) (fun H locs hW hS => ?_)
      refine lv_aload_n hx hb d_b_enter_14 rfl (lv_at hl 0 rfl) ?_
      refine hw_get (k := 0) (i := 0) (n := 1) (j := 1) (v := .ref (L 11 0)) hx hb hts hown hK hW fl_b_19 rfl (by omega) rfl d_b_enter_15 ?_
      refine lv_iload_n hx hb d_b_enter_18 rfl (lv_at hl 1 rfl) ?_
      obtain ⟨v4, z4, hc4, hF⟩ := f_bd_some hF
      refine hw_VR (k := 11) (i := 0) (nk := 1) (As := [.int a1]) (rest := []) hx hb hml hown hts (c_be_putIn_ok l hl0 hLi a1  _ _ _ hc4) st_b_90 (by decide) rfl (by omega) rfl rfl hK hZ hsz hS hW rfl hl.1 (Nat.le_of_ble_eq_true rfl) d_b_enter_19 (by omega) (by omega) (by omega) (by omega) (fun H locs hW hS => ?_)
      exact hw_iretX hx hb hr hlk (vp_nar_int _) hW hS (by omega) (by omega) d_b_enter_22 hF
    · cases hF
      exact hw_SX (As := [.int v2]) (rest := []) hx hb hml hown hts (c_b_require_ok l hl0 hLi v2  _ _ _ hc3) st_b_62 hK hZ hsz hS hW rfl hl.1 (Nat.le_of_ble_eq_true rfl) d_b_enter_11 (by omega) (by omega) (by omega) (by omega) (fun q ce H locs hW hS hq hv hcl => hw_out (fun x hx => (hno x hx).elim) hlk hW hS hq hv hcl (by omega) (by omega))
  · cases hF
    exact hw_VX (k := 0) (i := 0) (nk := 1) (As := []) (rest := []) hx hb hml hown hts (c_b_requireOn_ok l hl0 hLi   _ _ _ hc1) st_b_55 (by decide) rfl (by omega) rfl rfl hK hZ hsz hS hW rfl hl.1 (Nat.le_of_ble_eq_true rfl) d_b_enter_1 (by omega) (by omega) (by omega) (by omega) (fun q ce H locs hW hS hq hv hcl => hw_out (fun x hx => (hno x hx).elim) hlk hW hS hq hv hcl (by omega) (by omega))
set_option maxRecDepth 100000 in
set_option maxHeartbeats 4000000 in
theorem c_co_isOver_ok (l : Launch) (hl0 : l.stackTraces = false) {L : Nat → Nat → Nat} {Ar : Nat → ClassId} {D : va_G} {b0 : Nat} (hLi : f_L L b0) (a0 : Nat) (a1 : Int32) (h_a0 : a0 < 16) (z : fST) (r : Int32) (z' : fST) (hF : F_co_isOver a0 a1 z = some (r, z')) : f_C l y_co_isOver wt 2 0 L Ar D b0 [.ref (L 13 a0), .int a1] z (.inl (some (.int r))) z' := by
  refine f_ofW (cc := c_co_isOver) (maxL := 2) (ret := (some FieldType.boolean)) (by decide) w_co_isOver (Nat.le_of_ble_eq_true rfl) ?_
  intro p e s m args below meth c R hRf hRl hRc hRs hx hb hr hlk hml hno hts hown hK hZ hsz
  intro H locs ls cells slots hW hS hl hc hs
  have hl : lv_has ls 2 [(0, .ref (L 13 a0)), (1, .int a1)] := hl
  unfold F_co_isOver at hF
  refine lv_aload_n hx hb d_co_isOver_0 rfl (lv_at hl 0 rfl) ?_
  obtain ⟨v1, z1, hc1, hF⟩ := f_bd_some hF
  refine hw_VR (k := 13) (i := a0) (nk := 16) (As := []) (rest := []) hx hb hml hown hts (c_co_rear_ok l hl0 hLi a0 (by omega) _ _ _ hc1) st_co_52 (by decide) rfl (by omega) rfl rfl hK hZ hsz hS hW rfl hl.1 (Nat.le_of_ble_eq_true rfl) d_co_isOver_1 (by omega) (by omega) (by omega) (by omega) (fun H locs hW hS => ?_)
  refine lv_iload_n hx hb d_co_isOver_4 rfl (lv_at hl 1 rfl) ?_
  refine lv_icmp_ge (tgt := 20) hx hb d_co_isOver_5 (by decide) (fun h2 => ?_) (fun h2 => ?_)
  · replace hF := (if_pos h2).symm.trans hF
    refine lv_iconst (v := 0) hx hb d_co_isOver_20 (by decide) ?_
    exact hw_iret hx hb hr hlk (f_nZ (Or.inl rfl)) hW hS (by omega) (by omega) d_co_isOver_21 hF
  · replace hF := (if_neg h2).symm.trans hF
    refine lv_aload_n hx hb d_co_isOver_8 rfl (lv_at hl 0 rfl) ?_
    refine hw_get (k := 13) (i := a0) (n := 16) (j := 4) (v := .int (f_gI z1 13 a0 4)) hx hb hts hown hK hW fl_co_30 rfl (by omega) rfl d_co_isOver_9 ?_
    refine lv_iload_n hx hb d_co_isOver_12 rfl (lv_at hl 1 rfl) ?_
    refine lv_icmp_lt (tgt := 20) hx hb d_co_isOver_13 (by decide) (fun h3 => ?_) (fun h3 => ?_)
    · replace hF := (if_pos h3).symm.trans hF
      refine lv_iconst (v := 0) hx hb d_co_isOver_20 (by decide) ?_
      exact hw_iret hx hb hr hlk (f_nZ (Or.inl rfl)) hW hS (by omega) (by omega) d_co_isOver_21 hF
    · replace hF := (if_neg h3).symm.trans hF
      refine lv_iconst (v := 1) hx hb d_co_isOver_16 (by decide) ?_
      refine lv_goto (tgt := 21) hx hb d_co_isOver_17 (by decide) ?_
      exact hw_iret hx hb hr hlk (f_nZ (Or.inr rfl)) hW hS (by omega) (by omega) d_co_isOver_21 hF
