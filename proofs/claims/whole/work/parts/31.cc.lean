/-! contracts: the method does what its pure function says -/
set_option maxRecDepth 100000 in
set_option maxHeartbeats 4000000 in
theorem c_be_over_ok (l : Launch) (hl0 : l.stackTraces = false) {L : Nat → Nat → Nat} {Ar : Nat → ClassId} {D : va_G} {b0 : Nat} (hLi : f_L L b0) (a1 : Int32)  (z : fST) (r : Option Nat) (z' : fST) (hF : F_be_over a1 z = some (r, z')) : f_C l y_be_over wt 3 0 L Ar D b0 [.ref (L 11 0), .int a1] z (.inl (some (f_rv L 13 r))) z' := by
  refine f_ofW (cc := c_be_over) (maxL := 3) (ret := (Option.some (Jvm.ClassFile.FieldType.object "BottleReturn$Container"))) (by decide) w_be_over (Nat.le_of_ble_eq_true rfl) ?_
  intro p e s m args below meth c R hRf hRl hRc hRs hx hb hr hlk hml hno hts hown hK hZ hsz
  have B2 : ∀  (n : Nat) (x1 : Int32) (x2 : Int32) (z : fST), f_it (b_be_over_2 ) n (x1, x2, z) = some (r, z') →  f_B p l e R s m args below meth c L Ar D b0 3 0 (f_E below args s L Ar D b0 0 (.inl (some (f_rv L 13 r))) z') 0 2 [(0, .ref (L 11 0)), (1, .int x1), (2, .int x2)] [] z := by
    intro  n
    induction n with
    | zero => intro x1 x2 z hF; cases hF
    | succ n ih =>
    intro x1 x2 z hF  H locs ls cells slots hW hS hl hc hs
    replace hF := f_it_s hF
    have K2 : ∀ (x1 : Int32) (x2 : Int32) (z : fST), f_it (b_be_over_2 ) n (x1, x2, z) = some (r, z') →  f_B p l e R s m args below meth c L Ar D b0 3 0 (f_E below args s L Ar D b0 0 (.inl (some (f_rv L 13 r))) z') 0 2 [(0, .ref (L 11 0)), (1, .int x1), (2, .int x2)] [] z := fun x1 x2 z hF => ih x1 x2 z hF
    generalize f_it (b_be_over_2 ) n = k2 at hF K2
    unfold b_be_over_2 at hF
    dsimp only at hF
    refine lv_iload_n hx hb d_be_over_2 rfl (lv_at hl 2 rfl) ?_
    refine lv_aload_n hx hb d_be_over_3 rfl (lv_at hl 0 rfl) ?_
    refine hw_get (k := 11) (i := 0) (n := 1) (j := 1) (v := .int (f_gI z 11 0 1)) hx hb hts hown hK hW fl_be_18 rfl (by omega) rfl d_be_over_4 ?_
    refine lv_icmp_ge (tgt := 36) hx hb d_be_over_7 (by decide) (fun h1 => ?_) (fun h1 => ?_)
    · replace hF := (if_pos h1).symm.trans hF
      refine lv_null hx hb d_be_over_36 ?_
      exact hw_aret0 hx hb hr (Or.inl ⟨_, rfl⟩) hlk hW hS (by omega) (by omega) d_be_over_37 hF
    · replace hF := (if_neg h1).symm.trans hF
      refine lv_aload_n hx hb d_be_over_10 rfl (lv_at hl 0 rfl) ?_
      refine hw_get (k := 11) (i := 0) (n := 1) (j := 0) (v := .ref (L 12 0)) hx hb hts hown hK hW fl_be_11 rfl (by omega) rfl d_be_over_11 ?_
      refine lv_iload_n hx hb d_be_over_14 rfl (lv_at hl 2 rfl) ?_
      obtain ⟨g2, hF⟩ := f_gd_some hF
      obtain ⟨g3, hF⟩ := f_gd_some hF
      have g3 := of_decide_eq_true g3
      refine hw_rald hx hb hK hW g2 d_be_over_15 ?_
      refine lv_iload_n hx hb d_be_over_16 rfl (lv_at hl 1 rfl) ?_
      obtain ⟨v4, z4, hc4, hF⟩ := f_bd_some hF
      refine hw_VR (k := 13) (i := f_gR z (f_ix x2)) (nk := 16) (As := [.int x1]) (rest := []) hx hb hml hown hts (c_co_isOver_ok l hl0 hLi (f_gR z (f_ix x2)) x1 (by omega) _ _ _ hc4) st_be_33 (by decide) rfl (by omega) rfl rfl hK hZ hsz hS hW rfl hl.1 (Nat.le_of_ble_eq_true rfl) d_be_over_17 (by omega) (by omega) (by omega) (by omega) (fun H locs hW hS => ?_)
      refine lv_if_eq (tgt := 30) hx hb d_be_over_20 (by decide) (fun h5 => ?_) (fun h5 => ?_)
      · replace hF := (if_pos h5).symm.trans hF
        refine lv_iinc (k := 2) (x := x2) (v := x2 + 1) (lv' := [(2, .int (x2 + 1)), (0, .ref (L 11 0)), (1, .int x1)]) hx hb d_be_over_30 hl rfl rfl (by decide) rfl (fun ls hl => ?_)
        refine lv_goto (tgt := 2) hx hb d_be_over_33 (by decide) ?_
        exact K2 x1 (x2 + 1) z4 hF _ _ _ _ _ hW hS (lv_sub hl [1, 2, 0] rfl) (by omega) (by omega)
      · replace hF := (if_neg h5).symm.trans hF
        refine lv_aload_n hx hb d_be_over_23 rfl (lv_at hl 0 rfl) ?_
        refine hw_get (k := 11) (i := 0) (n := 1) (j := 0) (v := .ref (L 12 0)) hx hb hts hown hK hW fl_be_11 rfl (by omega) rfl d_be_over_24 ?_
        refine lv_iload_n hx hb d_be_over_27 rfl (lv_at hl 2 rfl) ?_
        obtain ⟨g6, hF⟩ := f_gd_some hF
        obtain ⟨g7, hF⟩ := f_gd_some hF
        have g7 := of_decide_eq_true g7
        refine hw_rald hx hb hK hW g6 d_be_over_28 ?_
        exact hw_aret hx hb hr (Or.inl ⟨_, rfl⟩) hlk hW hS (by omega) (by omega) d_be_over_29 hF
  intro H locs ls cells slots hW hS hl hc hs
  have hl : lv_has ls 3 [(0, .ref (L 11 0)), (1, .int a1)] := hl
  unfold F_be_over at hF
  refine lv_iconst (v := 0) hx hb d_be_over_0 (by decide) ?_
  refine lv_istore_n (lv' := [(2, .int 0), (0, .ref (L 11 0)), (1, .int a1)]) hx hb d_be_over_1 rfl hl (by decide) rfl (fun ls hl => ?_)
  exact B2 2000 a1 0 z hF _ _ _ _ _ hW hS (lv_sub hl [1, 2, 0] rfl) (by omega) (by omega)
set_option maxRecDepth 100000 in
set_option maxHeartbeats 4000000 in
theorem c_ro_isFull_ok (l : Launch) (hl0 : l.stackTraces = false) {L : Nat → Nat → Nat} {Ar : Nat → ClassId} {D : va_G} {b0 : Nat} (hLi : f_L L b0) (a0 : Nat) (h_a0 : a0 < 32) (z : fST) (r : Int32) (z' : fST) (hF : F_ro_isFull a0 z = some (r, z')) : f_C l y_ro_isFull wt 1 0 L Ar D b0 [.ref (L 14 a0)] z (.inl (some (.int r))) z' := by
  refine f_ofW (cc := c_ro_isFull) (maxL := 1) (ret := (some FieldType.boolean)) (by decide) w_ro_isFull (Nat.le_of_ble_eq_true rfl) ?_
  intro p e s m args below meth c R hRf hRl hRc hRs hx hb hr hlk hml hno hts hown hK hZ hsz
  intro H locs ls cells slots hW hS hl hc hs
  have hl : lv_has ls 1 [(0, .ref (L 14 a0))] := hl
  unfold F_ro_isFull at hF
  refine lv_aload_n hx hb d_ro_isFull_0 rfl (lv_at hl 0 rfl) ?_
  refine hw_get (k := 14) (i := a0) (n := 32) (j := 1) (v := .int (f_gI z 14 a0 1)) hx hb hts hown hK hW fl_ro_13 rfl (by omega) rfl d_ro_isFull_1 ?_
  refine lv_aload_n hx hb d_ro_isFull_4 rfl (lv_at hl 0 rfl) ?_
  refine hw_get (k := 14) (i := a0) (n := 32) (j := 0) (v := .ref (L 15 a0)) hx hb hts hown hK hW fl_ro_7 rfl (by omega) rfl d_ro_isFull_5 ?_
  refine hw_alen (k := 15) (i := a0) (n := 32) hx hb hK hW (by decide) rfl (by omega) rfl d_ro_isFull_8 ?_
  refine lv_icmp_lt (tgt := 16) hx hb d_ro_isFull_9 (by decide) (fun h1 => ?_) (fun h1 => ?_)
  · replace hF := (if_pos h1).symm.trans hF
    refine lv_iconst (v := 0) hx hb d_ro_isFull_16 (by decide) ?_
    exact hw_iret hx hb hr hlk (f_nZ (Or.inl rfl)) hW hS (by omega) (by omega) d_ro_isFull_17 hF
  · replace hF := (if_neg h1).symm.trans hF
    refine lv_iconst (v := 1) hx hb d_ro_isFull_12 (by decide) ?_
    refine lv_goto (tgt := 17) hx hb d_ro_isFull_13 (by decide) ?_
    exact hw_iret hx hb hr hlk (f_nZ (Or.inr rfl)) hW hS (by omega) (by omega) d_ro_isFull_17 hF
set_option maxRecDepth 100000 in
set_option maxHeartbeats 4000000 in
theorem c_ro_take_ok (l : Launch) (hl0 : l.stackTraces = false) {L : Nat → Nat → Nat} {Ar : Nat → ClassId} {D : va_G} {b0 : Nat} (hLi : f_L L b0) (a0 : Nat) (a1 : Int32) (h_a0 : a0 < 32) (z : fST) (r : Int32) (z' : fST) (hF : F_ro_take a0 a1 z = some (r, z')) : f_C l y_ro_take wt 2 0 L Ar D b0 [.ref (L 14 a0), .int a1] z (.inl (some (.int r))) z' := by
  refine f_ofW (cc := c_ro_take) (maxL := 2) (ret := (some FieldType.boolean)) (by decide) w_ro_take (Nat.le_of_ble_eq_true rfl) ?_
  intro p e s m args below meth c R hRf hRl hRc hRs hx hb hr hlk hml hno hts hown hK hZ hsz
  intro H locs ls cells slots hW hS hl hc hs
  have hl : lv_has ls 2 [(0, .ref (L 14 a0)), (1, .int a1)] := hl
  unfold F_ro_take at hF
  refine lv_aload_n hx hb d_ro_take_0 rfl (lv_at hl 0 rfl) ?_
  obtain ⟨v1, z1, hc1, hF⟩ := f_bd_some hF
  refine hw_VR (k := 14) (i := a0) (nk := 32) (As := []) (rest := []) hx hb hml hown hts (c_ro_isFull_ok l hl0 hLi a0 (by omega) _ _ _ hc1) st_ro_17 (by decide) rfl (by omega) rfl rfl hK hZ hsz hS hW rfl hl.1 (Nat.le_of_ble_eq_true rfl) d_ro_take_1 (by omega) (by omega) (by omega) (by omega) (fun H locs hW hS => ?_)
  refine lv_if_eq (tgt := 9) hx hb d_ro_take_4 (by decide) (fun h2 => ?_) (fun h2 => ?_)
  · replace hF := (if_pos h2).symm.trans hF
    refine lv_aload_n hx hb d_ro_take_9 rfl (lv_at hl 0 rfl) ?_
    refine hw_get (k := 14) (i := a0) (n := 32) (j := 0) (v := .ref (L 15 a0)) hx hb hts hown hK hW fl_ro_7 rfl (by omega) rfl d_ro_take_10 ?_
    refine lv_aload_n hx hb d_ro_take_13 rfl (lv_at hl 0 rfl) ?_
    refine hw_get (k := 14) (i := a0) (n := 32) (j := 1) (v := .int (f_gI z1 14 a0 1)) hx hb hts hown hK hW fl_ro_13 rfl (by omega) rfl d_ro_take_14 ?_
    refine lv_iload_n hx hb d_ro_take_17 rfl (lv_at hl 1 rfl) ?_
    obtain ⟨g3, hF⟩ := f_gd_some hF
    refine hw_iast (k := 15) (i := a0) (n := 32) hx hb hK hLi hW hS (by decide) rfl (by omega) rfl g3 d_ro_take_18 (fun H locs hW hS => ?_)
    refine lv_aload_n hx hb d_ro_take_19 rfl (lv_at hl 0 rfl) ?_
    refine lv_dup hx hb d_ro_take_20 rfl ?_
    refine hw_get (k := 14) (i := a0) (n := 32) (j := 1) (v := .int (f_gI (f_pI z1 15 a0 (f_ix (f_gI z1 14 a0 1)) a1) 14 a0 1)) hx hb hts hown hK hW fl_ro_13 rfl (by omega) rfl d_ro_take_21 ?_
    refine lv_iconst (v := 1) hx hb d_ro_take_24 (by decide) ?_
    refine lv_iadd hx hb d_ro_take_25 ?_
    refine hw_put (k := 14) (i := a0) (n := 32) (j := 1) (v := (f_gI (f_pI z1 15 a0 (f_ix (f_gI z1 14 a0 1)) a1) 14 a0 1) + 1) hx hb hts hown hK hLi hW hS fp_ro_13 (vp_nar_int _) rfl rfl (by omega) d_ro_take_26 (fun H locs hW hS => ?_)
    refine lv_iconst (v := 1) hx hb d_ro_take_29 (by decide) ?_
    exact hw_iret hx hb hr hlk (f_nZ (Or.inr rfl)) hW hS (by omega) (by omega) d_ro_take_30 hF
  · replace hF := (if_neg h2).symm.trans hF
    refine lv_iconst (v := 0) hx hb d_ro_take_7 (by decide) ?_
    exact hw_iret hx hb hr hlk (f_nZ (Or.inl rfl)) hW hS (by omega) (by omega) d_ro_take_8 hF
set_option maxRecDepth 100000 in
set_option maxHeartbeats 4000000 in
theorem c_b_code_ok (l : Launch) (hl0 : l.stackTraces = false) {L : Nat → Nat → Nat} {Ar : Nat → ClassId} {D : va_G} {b0 : Nat} (hLi : f_L L b0) (a1 : Int32)  (z : fST) (r : Int32 ⊕ Nat) (z' : fST) (hF : F_b_code a1 z = some (r, z')) : f_C l y_b_code wt 8 2 L Ar D b0 [.ref (L 0 0), .int a1] z (f_oi r) z' := by
  refine f_ofW (cc := c_b_code) (maxL := 3) (ret := (some FieldType.boolean)) (by decide) w_b_code (Nat.le_of_ble_eq_true rfl) ?_
  intro p e s m args below meth c R hRf hRl hRc hRs hx hb hr hlk hml hno hts hown hK hZ hsz
  intro H locs ls cells slots hW hS hl hc hs
  have hl : lv_has ls 3 [(0, .ref (L 0 0)), (1, .int a1)] := hl
  unfold F_b_code at hF
  refine lv_aload_n hx hb d_b_code_0 rfl (lv_at hl 0 rfl) ?_
  rcases f_bx_some hF with ⟨v1, z1, hc1, hF⟩ | ⟨v1, z1, hc1, hF⟩
  · skip
    refine hw_VR (k := 0) (i := 0) (nk := 1) (As := []) (rest := []) hx hb hml hown hts (c_b_requireOn_ok l hl0 hLi   _ _ _ hc1) st_b_55 (by decide) rfl (by omega) rfl rfl hK hZ hsz hS hW rfl hl.1 (Nat.le_of_ble_eq_true rfl) d_b_code_1 (by omega) (by omega) (by omega) (by omega) (fun H locs hW hS => ?_)
    refine lv_iload_n hx hb d_b_code_4 rfl (lv_at hl 1 rfl) ?_
    refine lv_iconst (v := 1) hx hb d_b_code_5 (by decide) ?_
    refine lv_ldc (v := 999999) hx hb hown (hts _ (wt_in (List.mem_of_getElem? (i := 418) (by decide +kernel)) rfl)) d_b_code_6 ?_
    obtain ⟨v2, z2, hc2, hF⟩ := f_bd_some hF
    refine hw_SR (As := [.int a1, .int 1, .int 999999]) (rest := []) hx hb hml hown hts (c_b_isWithin_ok l hl0 hLi a1 1 999999  _ _ _ hc2) st_b_66 hK hZ hsz hS hW rfl hl.1 (Nat.le_of_ble_eq_true rfl) d_b_code_8 (by omega) (by omega) (by omega) (by omega) (fun H locs hW hS => ?_)
    rcases f_bx_some hF with ⟨v3, z3, hc3, hF⟩ | ⟨v3, z3, hc3, hF⟩
    · skip
      refine hw_SR (As := [.int v2]) (rest := []) hx hb hml hown hts (c_b_require_ok l hl0 hLi v2  _ _ _ hc3) st_b_62 hK hZ hsz hS hW rfl hl.1 (Nat.le_of_ble_eq_true rfl) d_b_code_11 (by omega) (by omega) (by omega) (by omega) (fun H locs hW hS => ?_)
      refine lv_aload_n hx hb d_b_code_14 rfl (lv_at hl 0 rfl) ?_
      refine hw_get (k := 0) (i := 0) (n := 1) (j := 1) (v := .ref (L 11 0)) hx hb hts hown hK hW fl_b_19 rfl (by omega) rfl d_b_code_15 ?_
      refine lv_bipush (v := 15) hx hb d_b_code_18 (by decide) ?_
      obtain ⟨v4, z4, hc4, hF⟩ := f_bd_some hF
      cases v4 with
      | none =>
        replace hF := f_cz_n hF
        refine hw_VR (k := 11) (i := 0) (nk := 1) (As := [.int 15]) (rest := []) hx hb hml hown hts (c_be_over_ok l hl0 hLi 15  _ _ _ hc4) st_b_93 (by decide) rfl (by omega) rfl rfl hK hZ hsz hS hW rfl hl.1 (Nat.le_of_ble_eq_true rfl) d_b_code_20 (by omega) (by omega) (by omega) (by omega) (fun H locs hW hS => ?_)
        refine lv_astore_nN (lv' := [(2, .null), (0, .ref (L 0 0)), (1, .int a1)]) hx hb d_b_code_23 rfl hl (by decide) rfl (fun ls hl => ?_)
        refine lv_aload_nN hx hb d_b_code_24 rfl (lv_at hl 0 rfl) ?_
        refine lv_ifnullN (tgt := 43) hx hb d_b_code_25 (by decide) ?_
        refine lv_iconst (v := 0) hx hb d_b_code_43 (by decide) ?_
        exact hw_iretX hx hb hr hlk (f_nZ (Or.inl rfl)) hW hS (by omega) (by omega) d_b_code_44 hF
      | some i4 =>
        obtain ⟨hi4, hF⟩ := f_gd_some (f_cz_s hF)
        have hi4 := of_decide_eq_true hi4
        refine hw_VR (k := 11) (i := 0) (nk := 1) (As := [.int 15]) (rest := []) hx hb hml hown hts (c_be_over_ok l hl0 hLi 15  _ _ _ hc4) st_b_93 (by decide) rfl (by omega) rfl rfl hK hZ hsz hS hW rfl hl.1 (Nat.le_of_ble_eq_true rfl) d_b_code_20 (by omega) (by omega) (by omega) (by omega) (fun H locs hW hS => ?_)
        refine lv_astore_n (lv' := [(2, .ref (L 13 i4)), (0, .ref (L 0 0)), (1, .int a1)]) hx hb d_b_code_23 rfl hl (by decide) rfl (fun ls hl => ?_)
        refine lv_aload_n hx hb d_b_code_24 rfl (lv_at hl 0 rfl) ?_
        refine lv_ifnull hx hb d_b_code_25 ?_
        refine lv_aload_n hx hb d_b_code_28 rfl (lv_at hl 0 rfl) ?_
        refine hw_get (k := 13) (i := i4) (n := 16) (j := 0) (v := .ref (L 14 i4)) hx hb hts hown hK hW fl_b_97 rfl (by omega) rfl d_b_code_29 ?_
        refine lv_iload_n hx hb d_b_code_32 rfl (lv_at hl 2 rfl) ?_
        obtain ⟨v5, z5, hc5, hF⟩ := f_bd_some hF
        refine hw_VR (k := 14) (i := i4) (nk := 32) (As := [.int a1]) (rest := []) hx hb hml hown hts (c_ro_take_ok l hl0 hLi i4 a1 (by omega) _ _ _ hc5) st_b_103 (by decide) rfl (by omega) rfl rfl hK hZ hsz hS hW rfl hl.1 (Nat.le_of_ble_eq_true rfl) d_b_code_33 (by omega) (by omega) (by omega) (by omega) (fun H locs hW hS => ?_)
        refine lv_if_eq (tgt := 43) hx hb d_b_code_36 (by decide) (fun h6 => ?_) (fun h6 => ?_)
        · replace hF := (if_pos h6).symm.trans hF
          refine lv_iconst (v := 0) hx hb d_b_code_43 (by decide) ?_
          exact hw_iretX hx hb hr hlk (f_nZ (Or.inl rfl)) hW hS (by omega) (by omega) d_b_code_44 hF
        · replace hF := (if_neg h6).symm.trans hF
          refine lv_iconst (v := 1) hx hb d_b_code_39 (by decide) ?_
          refine lv_goto (tgt := 44) hx hb d_b_code_40 (by decide) ?_
          exact hw_iretX hx hb hr hlk (f_nZ (Or.inr rfl)) hW hS (by omega) (by omega) d_b_code_44 hF
    · cases hF
      exact hw_SX (As := [.int v2]) (rest := []) hx hb hml hown hts (c_b_require_ok l hl0 hLi v2  _ _ _ hc3) st_b_62 hK hZ hsz hS hW rfl hl.1 (Nat.le_of_ble_eq_true rfl) d_b_code_11 (by omega) (by omega) (by omega) (by omega) (fun q ce H locs hW hS hq hv hcl => hw_out (fun x hx => (hno x hx).elim) hlk hW hS hq hv hcl (by omega) (by omega))
  · cases hF
    exact hw_VX (k := 0) (i := 0) (nk := 1) (As := []) (rest := []) hx hb hml hown hts (c_b_requireOn_ok l hl0 hLi   _ _ _ hc1) st_b_55 (by decide) rfl (by omega) rfl rfl hK hZ hsz hS hW rfl hl.1 (Nat.le_of_ble_eq_true rfl) d_b_code_1 (by omega) (by omega) (by omega) (by omega) (fun q ce H locs hW hS hq hv hcl => hw_out (fun x hx => (hno x hx).elim) hlk hW hS hq hv hcl (by omega) (by omega))
set_option maxRecDepth 100000 in
set_option maxHeartbeats 4000000 in
theorem c_b_width_ok (l : Launch) (hl0 : l.stackTraces = false) {L : Nat → Nat → Nat} {Ar : Nat → ClassId} {D : va_G} {b0 : Nat} (hLi : f_L L b0) (a1 : Int32)  (z : fST) (r : Int32 ⊕ Nat) (z' : fST) (hF : F_b_width a1 z = some (r, z')) : f_C l y_b_width wt 8 2 L Ar D b0 [.ref (L 0 0), .int a1] z (f_oi r) z' := by
  refine f_ofW (cc := c_b_width) (maxL := 3) (ret := (some FieldType.boolean)) (by decide) w_b_width (Nat.le_of_ble_eq_true rfl) ?_
  intro p e s m args below meth c R hRf hRl hRc hRs hx hb hr hlk hml hno hts hown hK hZ hsz
  intro H locs ls cells slots hW hS hl hc hs
  have hl : lv_has ls 3 [(0, .ref (L 0 0)), (1, .int a1)] := hl
  unfold F_b_width at hF
  refine lv_aload_n hx hb d_b_width_0 rfl (lv_at hl 0 rfl) ?_
  rcases f_bx_some hF with ⟨v1, z1, hc1, hF⟩ | ⟨v1, z1, hc1, hF⟩
  · skip
    refine hw_VR (k := 0) (i := 0) (nk := 1) (As := []) (rest := []) hx hb hml hown hts (c_b_requireOn_ok l hl0 hLi   _ _ _ hc1) st_b_55 (by decide) rfl (by omega) rfl rfl hK hZ hsz hS hW rfl hl.1 (Nat.le_of_ble_eq_true rfl) d_b_width_1 (by omega) (by omega) (by omega) (by omega) (fun H locs hW hS => ?_)
    refine lv_iload_n hx hb d_b_width_4 rfl (lv_at hl 1 rfl) ?_
    refine lv_iconst (v := 0) hx hb d_b_width_5 (by decide) ?_
    refine lv_sipush (v := 255) hx hb d_b_width_6 (by decide) ?_
    obtain ⟨v2, z2, hc2, hF⟩ := f_bd_some hF
    refine hw_SR (As := [.int a1, .int 0, .int 255]) (rest := []) hx hb hml hown hts (c_b_isWithin_ok l hl0 hLi a1 0 255  _ _ _ hc2) st_b_66 hK hZ hsz hS hW rfl hl.1 (Nat.le_of_ble_eq_true rfl) d_b_width_9 (by omega) (by omega) (by omega) (by omega) (fun H locs hW hS => ?_)
    rcases f_bx_some hF with ⟨v3, z3, hc3, hF⟩ | ⟨v3, z3, hc3, hF⟩
    · skip
      refine hw_SR (As := [.int v2]) (rest := []) hx hb hml hown hts (c_b_require_ok l hl0 hLi v2  _ _ _ hc3) st_b_62 hK hZ hsz hS hW rfl hl.1 (Nat.le_of_ble_eq_true rfl) d_b_width_12 (by omega) (by omega) (by omega) (by omega) (fun H locs hW hS => ?_)
      refine lv_aload_n hx hb d_b_width_15 rfl (lv_at hl 0 rfl) ?_
      refine hw_get (k := 0) (i := 0) (n := 1) (j := 1) (v := .ref (L 11 0)) hx hb hts hown hK hW fl_b_19 rfl (by omega) rfl d_b_width_16 ?_
      refine lv_bipush (v := 30) hx hb d_b_width_19 (by decide) ?_
      obtain ⟨v4, z4, hc4, hF⟩ := f_bd_some hF
      cases v4 with
      | none =>
        replace hF := f_cz_n hF
        refine hw_VR (k := 11) (i := 0) (nk := 1) (As := [.int 30]) (rest := []) hx hb hml hown hts (c_be_over_ok l hl0 hLi 30  _ _ _ hc4) st_b_93 (by decide) rfl (by omega) rfl rfl hK hZ hsz hS hW rfl hl.1 (Nat.le_of_ble_eq_true rfl) d_b_width_21 (by omega) (by omega) (by omega) (by omega) (fun H locs hW hS => ?_)
        refine lv_astore_nN (lv' := [(2, .null), (0, .ref (L 0 0)), (1, .int a1)]) hx hb d_b_width_24 rfl hl (by decide) rfl (fun ls hl => ?_)
        refine lv_aload_nN hx hb d_b_width_25 rfl (lv_at hl 0 rfl) ?_
        refine lv_ifnullN (tgt := 44) hx hb d_b_width_26 (by decide) ?_
        refine lv_iconst (v := 0) hx hb d_b_width_44 (by decide) ?_
        exact hw_iretX hx hb hr hlk (f_nZ (Or.inl rfl)) hW hS (by omega) (by omega) d_b_width_45 hF
      | some i4 =>
        obtain ⟨hi4, hF⟩ := f_gd_some (f_cz_s hF)
        have hi4 := of_decide_eq_true hi4
        refine hw_VR (k := 11) (i := 0) (nk := 1) (As := [.int 30]) (rest := []) hx hb hml hown hts (c_be_over_ok l hl0 hLi 30  _ _ _ hc4) st_b_93 (by decide) rfl (by omega) rfl rfl hK hZ hsz hS hW rfl hl.1 (Nat.le_of_ble_eq_true rfl) d_b_width_21 (by omega) (by omega) (by omega) (by omega) (fun H locs hW hS => ?_)
        refine lv_astore_n (lv' := [(2, .ref (L 13 i4)), (0, .ref (L 0 0)), (1, .int a1)]) hx hb d_b_width_24 rfl hl (by decide) rfl (fun ls hl => ?_)
        refine lv_aload_n hx hb d_b_width_25 rfl (lv_at hl 0 rfl) ?_
        refine lv_ifnull hx hb d_b_width_26 ?_
        refine lv_aload_n hx hb d_b_width_29 rfl (lv_at hl 0 rfl) ?_
        refine hw_get (k := 13) (i := i4) (n := 16) (j := 1) (v := .ref (L 14 (i4 + 16))) hx hb hts hown hK hW fl_b_109 rfl (by omega) rfl d_b_width_30 ?_
        refine lv_iload_n hx hb d_b_width_33 rfl (lv_at hl 2 rfl) ?_
        obtain ⟨v5, z5, hc5, hF⟩ := f_bd_some hF
        refine hw_VR (k := 14) (i := i4 + 16) (nk := 32) (As := [.int a1]) (rest := []) hx hb hml hown hts (c_ro_take_ok l hl0 hLi (i4 + 16) a1 (by omega) _ _ _ hc5) st_b_103 (by decide) rfl (by omega) rfl rfl hK hZ hsz hS hW rfl hl.1 (Nat.le_of_ble_eq_true rfl) d_b_width_34 (by omega) (by omega) (by omega) (by omega) (fun H locs hW hS => ?_)
        refine lv_if_eq (tgt := 44) hx hb d_b_width_37 (by decide) (fun h6 => ?_) (fun h6 => ?_)
        · replace hF := (if_pos h6).symm.trans hF
          refine lv_iconst (v := 0) hx hb d_b_width_44 (by decide) ?_
          exact hw_iretX hx hb hr hlk (f_nZ (Or.inl rfl)) hW hS (by omega) (by omega) d_b_width_45 hF
        · replace hF := (if_neg h6).symm.trans hF
          refine lv_iconst (v := 1) hx hb d_b_width_40 (by decide) ?_
          refine lv_goto (tgt := 45) hx hb d_b_width_41 (by decide) ?_
          exact hw_iretX hx hb hr hlk (f_nZ (Or.inr rfl)) hW hS (by omega) (by omega) d_b_width_45 hF
    · cases hF
      exact hw_SX (As := [.int v2]) (rest := []) hx hb hml hown hts (c_b_require_ok l hl0 hLi v2  _ _ _ hc3) st_b_62 hK hZ hsz hS hW rfl hl.1 (Nat.le_of_ble_eq_true rfl) d_b_width_12 (by omega) (by omega) (by omega) (by omega) (fun q ce H locs hW hS hq hv hcl => hw_out (fun x hx => (hno x hx).elim) hlk hW hS hq hv hcl (by omega) (by omega))
  · cases hF
    exact hw_VX (k := 0) (i := 0) (nk := 1) (As := []) (rest := []) hx hb hml hown hts (c_b_requireOn_ok l hl0 hLi   _ _ _ hc1) st_b_55 (by decide) rfl (by omega) rfl rfl hK hZ hsz hS hW rfl hl.1 (Nat.le_of_ble_eq_true rfl) d_b_width_1 (by omega) (by omega) (by omega) (by omega) (fun q ce H locs hW hS hq hv hcl => hw_out (fun x hx => (hno x hx).elim) hlk hW hS hq hv hcl (by omega) (by omega))
set_option maxRecDepth 100000 in
set_option maxHeartbeats 4000000 in
theorem c_b_weigh_ok (l : Launch) (hl0 : l.stackTraces = false) {L : Nat → Nat → Nat} {Ar : Nat → ClassId} {D : va_G} {b0 : Nat} (hLi : f_L L b0) (a1 : Int32)  (z : fST) (r : Int32 ⊕ Nat) (z' : fST) (hF : F_b_weigh a1 z = some (r, z')) : f_C l y_b_weigh wt 8 2 L Ar D b0 [.ref (L 0 0), .int a1] z (f_oi r) z' := by
  refine f_ofW (cc := c_b_weigh) (maxL := 3) (ret := (some FieldType.boolean)) (by decide) w_b_weigh (Nat.le_of_ble_eq_true rfl) ?_
  intro p e s m args below meth c R hRf hRl hRc hRs hx hb hr hlk hml hno hts hown hK hZ hsz
  intro H locs ls cells slots hW hS hl hc hs
  have hl : lv_has ls 3 [(0, .ref (L 0 0)), (1, .int a1)] := hl
  unfold F_b_weigh at hF
  refine lv_aload_n hx hb d_b_weigh_0 rfl (lv_at hl 0 rfl) ?_
  rcases f_bx_some hF with ⟨v1, z1, hc1, hF⟩ | ⟨v1, z1, hc1, hF⟩
  · skip
    refine hw_VR (k := 0) (i := 0) (nk := 1) (As := []) (rest := []) hx hb hml hown hts (c_b_requireOn_ok l hl0 hLi   _ _ _ hc1) st_b_55 (by decide) rfl (by omega) rfl rfl hK hZ hsz hS hW rfl hl.1 (Nat.le_of_ble_eq_true rfl) d_b_weigh_1 (by omega) (by omega) (by omega) (by omega) (fun H locs hW hS => ?_)
    refine lv_iload_n hx hb d_b_weigh_4 rfl (lv_at hl 1 rfl) ?_
    refine lv_iconst (v := 0) hx hb d_b_weigh_5 (by decide) ?_
    refine lv_sipush (v := 5000) hx hb d_b_weigh_6 (by decide) ?_
    obtain ⟨v2, z2, hc2, hF⟩ := f_bd_some hF
    refine hw_SR (As := [.int a1, .int 0, .int 5000]) (rest := []) hx hb hml hown hts (c_b_isWithin_ok l hl0 hLi a1 0 5000  _ _ _ hc2) st_b_66 hK hZ hsz hS hW rfl hl.1 (Nat.le_of_ble_eq_true rfl) d_b_weigh_9 (by omega) (by omega) (by omega) (by omega) (fun H locs hW hS => ?_)
    rcases f_bx_some hF with ⟨v3, z3, hc3, hF⟩ | ⟨v3, z3, hc3, hF⟩
    · skip
      refine hw_SR (As := [.int v2]) (rest := []) hx hb hml hown hts (c_b_require_ok l hl0 hLi v2  _ _ _ hc3) st_b_62 hK hZ hsz hS hW rfl hl.1 (Nat.le_of_ble_eq_true rfl) d_b_weigh_12 (by omega) (by omega) (by omega) (by omega) (fun H locs hW hS => ?_)
      refine lv_aload_n hx hb d_b_weigh_15 rfl (lv_at hl 0 rfl) ?_
      refine hw_get (k := 0) (i := 0) (n := 1) (j := 1) (v := .ref (L 11 0)) hx hb hts hown hK hW fl_b_19 rfl (by omega) rfl d_b_weigh_16 ?_
      refine lv_bipush (v := 45) hx hb d_b_weigh_19 (by decide) ?_
      obtain ⟨v4, z4, hc4, hF⟩ := f_bd_some hF
      cases v4 with
      | none =>
        replace hF := f_cz_n hF
        refine hw_VR (k := 11) (i := 0) (nk := 1) (As := [.int 45]) (rest := []) hx hb hml hown hts (c_be_over_ok l hl0 hLi 45  _ _ _ hc4) st_b_93 (by decide) rfl (by omega) rfl rfl hK hZ hsz hS hW rfl hl.1 (Nat.le_of_ble_eq_true rfl) d_b_weigh_21 (by omega) (by omega) (by omega) (by omega) (fun H locs hW hS => ?_)
        refine lv_astore_nN (lv' := [(2, .null), (0, .ref (L 0 0)), (1, .int a1)]) hx hb d_b_weigh_24 rfl hl (by decide) rfl (fun ls hl => ?_)
        refine lv_aload_nN hx hb d_b_weigh_25 rfl (lv_at hl 0 rfl) ?_
        refine lv_ifnonnullN hx hb d_b_weigh_26 ?_
        refine lv_iconst (v := 0) hx hb d_b_weigh_29 (by decide) ?_
        exact hw_iretX hx hb hr hlk (f_nZ (Or.inl rfl)) hW hS (by omega) (by omega) d_b_weigh_30 hF
      | some i4 =>
        obtain ⟨hi4, hF⟩ := f_gd_some (f_cz_s hF)
        have hi4 := of_decide_eq_true hi4
        refine hw_VR (k := 11) (i := 0) (nk := 1) (As := [.int 45]) (rest := []) hx hb hml hown hts (c_be_over_ok l hl0 hLi 45  _ _ _ hc4) st_b_93 (by decide) rfl (by omega) rfl rfl hK hZ hsz hS hW rfl hl.1 (Nat.le_of_ble_eq_true rfl) d_b_weigh_21 (by omega) (by omega) (by omega) (by omega) (fun H locs hW hS => ?_)
        refine lv_astore_n (lv' := [(2, .ref (L 13 i4)), (0, .ref (L 0 0)), (1, .int a1)]) hx hb d_b_weigh_24 rfl hl (by decide) rfl (fun ls hl => ?_)
        refine lv_aload_n hx hb d_b_weigh_25 rfl (lv_at hl 0 rfl) ?_
        refine lv_ifnonnull (tgt := 31) hx hb d_b_weigh_26 (by decide) ?_
        refine lv_aload_n hx hb d_b_weigh_31 rfl (lv_at hl 0 rfl) ?_
        refine lv_iload_n hx hb d_b_weigh_32 rfl (lv_at hl 2 rfl) ?_
        refine hw_put (k := 13) (i := i4) (n := 16) (j := 5) (v := a1) hx hb hts hown hK hLi hW hS fp_b_112 (vp_nar_int _) rfl rfl (by omega) d_b_weigh_33 (fun H locs hW hS => ?_)
        refine lv_iconst (v := 1) hx hb d_b_weigh_36 (by decide) ?_
        exact hw_iretX hx hb hr hlk (f_nZ (Or.inr rfl)) hW hS (by omega) (by omega) d_b_weigh_37 hF
    · cases hF
      exact hw_SX (As := [.int v2]) (rest := []) hx hb hml hown hts (c_b_require_ok l hl0 hLi v2  _ _ _ hc3) st_b_62 hK hZ hsz hS hW rfl hl.1 (Nat.le_of_ble_eq_true rfl) d_b_weigh_12 (by omega) (by omega) (by omega) (by omega) (fun q ce H locs hW hS hq hv hcl => hw_out (fun x hx => (hno x hx).elim) hlk hW hS hq hv hcl (by omega) (by omega))
  · cases hF
    exact hw_VX (k := 0) (i := 0) (nk := 1) (As := []) (rest := []) hx hb hml hown hts (c_b_requireOn_ok l hl0 hLi   _ _ _ hc1) st_b_55 (by decide) rfl (by omega) rfl rfl hK hZ hsz hS hW rfl hl.1 (Nat.le_of_ble_eq_true rfl) d_b_weigh_1 (by omega) (by omega) (by omega) (by omega) (fun q ce H locs hW hS hq hv hcl => hw_out (fun x hx => (hno x hx).elim) hlk hW hS hq hv hcl (by omega) (by omega))
set_option maxRecDepth 100000 in
set_option maxHeartbeats 4000000 in
theorem c_be_isBlocked_ok (l : Launch) (hl0 : l.stackTraces = false) {L : Nat → Nat → Nat} {Ar : Nat → ClassId} {D : va_G} {b0 : Nat} (hLi : f_L L b0)   (z : fST) (r : Int32) (z' : fST) (hF : F_be_isBlocked  z = some (r, z')) : f_C l y_be_isBlocked wt 1 0 L Ar D b0 [.ref (L 11 0)] z (.inl (some (.int r))) z' := by
  refine f_ofW (cc := c_be_isBlocked) (maxL := 2) (ret := (some FieldType.boolean)) (by decide) w_be_isBlocked (Nat.le_of_ble_eq_true rfl) ?_
  intro p e s m args below meth c R hRf hRl hRc hRs hx hb hr hlk hml hno hts hown hK hZ hsz
  have B40 : ∀ (k2 : Int32 × fST → Option (Int32 × fST)) (K2 : ∀ (x1 : Int32) (z : fST), k2 (x1, z) = some (r, z') →  f_B p l e R s m args below meth c L Ar D b0 2 0 (f_E below args s L Ar D b0 0 (.inl (some (.int r))) z') 0 2 [(0, .ref (L 11 0)), (1, .int x1)] [] z) (x1 : Int32) (z : fST), b_be_isBlocked_40 k2 x1 z = some (r, z') →  f_B p l e R s m args below meth c L Ar D b0 2 0 (f_E below args s L Ar D b0 0 (.inl (some (.int r))) z') 0 40 [(0, .ref (L 11 0)), (1, .int x1)] [] z := by
    intro k2 K2 x1 z hF  H locs ls cells slots hW hS hl hc hs
    unfold b_be_isBlocked_40 at hF
    refine lv_iinc (k := 1) (x := x1) (v := x1 + 1) (lv' := [(1, .int (x1 + 1)), (0, .ref (L 11 0))]) hx hb d_be_isBlocked_40 hl rfl rfl (by decide) rfl (fun ls hl => ?_)
    refine lv_goto (tgt := 2) hx hb d_be_isBlocked_43 (by decide) ?_
    exact K2 (x1 + 1) z hF _ _ _ _ _ hW hS (lv_sub hl [1, 0] rfl) (by omega) (by omega)
  have B2 : ∀  (n : Nat) (x1 : Int32) (z : fST), f_it (b_be_isBlocked_2 ) n (x1, z) = some (r, z') →  f_B p l e R s m args below meth c L Ar D b0 2 0 (f_E below args s L Ar D b0 0 (.inl (some (.int r))) z') 0 2 [(0, .ref (L 11 0)), (1, .int x1)] [] z := by
    intro  n
    induction n with
    | zero => intro x1 z hF; cases hF
    | succ n ih =>
    intro x1 z hF  H locs ls cells slots hW hS hl hc hs
    replace hF := f_it_s hF
    have K2 : ∀ (x1 : Int32) (z : fST), f_it (b_be_isBlocked_2 ) n (x1, z) = some (r, z') →  f_B p l e R s m args below meth c L Ar D b0 2 0 (f_E below args s L Ar D b0 0 (.inl (some (.int r))) z') 0 2 [(0, .ref (L 11 0)), (1, .int x1)] [] z := fun x1 z hF => ih x1 z hF
    generalize f_it (b_be_isBlocked_2 ) n = k2 at hF K2
    unfold b_be_isBlocked_2 at hF
    dsimp only at hF
    refine lv_iload_n hx hb d_be_isBlocked_2 rfl (lv_at hl 1 rfl) ?_
    refine lv_aload_n hx hb d_be_isBlocked_3 rfl (lv_at hl 0 rfl) ?_
    refine hw_get (k := 11) (i := 0) (n := 1) (j := 1) (v := .int (f_gI z 11 0 1)) hx hb hts hown hK hW fl_be_18 rfl (by omega) rfl d_be_isBlocked_4 ?_
    refine lv_icmp_ge (tgt := 46) hx hb d_be_isBlocked_7 (by decide) (fun h1 => ?_) (fun h1 => ?_)
    · replace hF := (if_pos h1).symm.trans hF
      refine lv_iconst (v := 0) hx hb d_be_isBlocked_46 (by decide) ?_
      exact hw_iret hx hb hr hlk (f_nZ (Or.inl rfl)) hW hS (by omega) (by omega) d_be_isBlocked_47 hF
    · replace hF := (if_neg h1).symm.trans hF
      refine lv_aload_n hx hb d_be_isBlocked_10 rfl (lv_at hl 0 rfl) ?_
      refine hw_get (k := 11) (i := 0) (n := 1) (j := 0) (v := .ref (L 12 0)) hx hb hts hown hK hW fl_be_11 rfl (by omega) rfl d_be_isBlocked_11 ?_
      refine lv_iload_n hx hb d_be_isBlocked_14 rfl (lv_at hl 1 rfl) ?_
      obtain ⟨g2, hF⟩ := f_gd_some hF
      obtain ⟨g3, hF⟩ := f_gd_some hF
      have g3 := of_decide_eq_true g3
      refine hw_rald hx hb hK hW g2 d_be_isBlocked_15 ?_
      refine hw_get (k := 13) (i := f_gR z (f_ix x1)) (n := 16) (j := 4) (v := .int (f_gI z 13 (f_gR z (f_ix x1)) 4)) hx hb hts hown hK hW fl_be_40 rfl (by omega) rfl d_be_isBlocked_16 ?_
      refine lv_bipush (v := 104) hx hb d_be_isBlocked_19 (by decide) ?_
      refine lv_icmp_ne (tgt := 40) hx hb d_be_isBlocked_21 (by decide) (fun h4 => ?_) (fun h4 => ?_)
      · replace hF := (if_neg h4).symm.trans hF
        exact B40 k2 K2 x1 z hF _ _ _ _ _ hW hS (lv_sub hl [0, 1] rfl) (by omega) (by omega)
      · replace hF := (if_pos h4).symm.trans hF
        refine lv_aload_n hx hb d_be_isBlocked_24 rfl (lv_at hl 0 rfl) ?_
        refine hw_get (k := 11) (i := 0) (n := 1) (j := 0) (v := .ref (L 12 0)) hx hb hts hown hK hW fl_be_11 rfl (by omega) rfl d_be_isBlocked_25 ?_
        refine lv_iload_n hx hb d_be_isBlocked_28 rfl (lv_at hl 1 rfl) ?_
        obtain ⟨g5, hF⟩ := f_gd_some hF
        obtain ⟨g6, hF⟩ := f_gd_some hF
        have g6 := of_decide_eq_true g6
        refine hw_rald hx hb hK hW g5 d_be_isBlocked_29 ?_
        refine hw_get (k := 13) (i := f_gR z (f_ix x1)) (n := 16) (j := 6) (v := .int (f_gI z 13 (f_gR z (f_ix x1)) 6)) hx hb hts hown hK hW fl_be_43 rfl (by omega) rfl d_be_isBlocked_30 ?_
        refine lv_bipush (v := 10) hx hb d_be_isBlocked_33 (by decide) ?_
        refine lv_icmp_eq (tgt := 40) hx hb d_be_isBlocked_35 (by decide) (fun h7 => ?_) (fun h7 => ?_)
        · replace hF := (if_pos h7).symm.trans hF
          exact B40 k2 K2 x1 z hF _ _ _ _ _ hW hS (lv_sub hl [0, 1] rfl) (by omega) (by omega)
        · replace hF := (if_neg h7).symm.trans hF
          refine lv_iconst (v := 1) hx hb d_be_isBlocked_38 (by decide) ?_
          exact hw_iret hx hb hr hlk (f_nZ (Or.inr rfl)) hW hS (by omega) (by omega) d_be_isBlocked_39 hF
  intro H locs ls cells slots hW hS hl hc hs
  have hl : lv_has ls 2 [(0, .ref (L 11 0))] := hl
  unfold F_be_isBlocked at hF
  refine lv_iconst (v := 0) hx hb d_be_isBlocked_0 (by decide) ?_
  refine lv_istore_n (lv' := [(1, .int 0), (0, .ref (L 11 0))]) hx hb d_be_isBlocked_1 rfl hl (by decide) rfl (fun ls hl => ?_)
  exact B2 2000 0 z hF _ _ _ _ _ hW hS (lv_sub hl [1, 0] rfl) (by omega) (by omega)
set_option maxRecDepth 100000 in
set_option maxHeartbeats 4000000 in
theorem c_be_moveUp_ok (l : Launch) (hl0 : l.stackTraces = false) {L : Nat → Nat → Nat} {Ar : Nat → ClassId} {D : va_G} {b0 : Nat} (hLi : f_L L b0)   (z : fST) (r : Unit) (z' : fST) (hF : F_be_moveUp  z = some (r, z')) : f_C l y_be_moveUp wt 1 0 L Ar D b0 [.ref (L 11 0)] z (.inl none) z' := by
  refine f_ofW (cc := c_be_moveUp) (maxL := 2) (ret := (Option.none : Option Jvm.ClassFile.FieldType)) (by decide) w_be_moveUp (Nat.le_of_ble_eq_true rfl) ?_
  intro p e s m args below meth c R hRf hRl hRc hRs hx hb hr hlk hml hno hts hown hK hZ hsz
  have B2 : ∀  (n : Nat) (x1 : Int32) (z : fST), f_it (b_be_moveUp_2 ) n (x1, z) = some (r, z') →  f_B p l e R s m args below meth c L Ar D b0 2 0 (f_E below args s L Ar D b0 0 (.inl none) z') 0 2 [(0, .ref (L 11 0)), (1, .int x1)] [] z := by
    intro  n
    induction n with
    | zero => intro x1 z hF; cases hF
    | succ n ih =>
    intro x1 z hF  H locs ls cells slots hW hS hl hc hs
    replace hF := f_it_s hF
    have K2 : ∀ (x1 : Int32) (z : fST), f_it (b_be_moveUp_2 ) n (x1, z) = some (r, z') →  f_B p l e R s m args below meth c L Ar D b0 2 0 (f_E below args s L Ar D b0 0 (.inl none) z') 0 2 [(0, .ref (L 11 0)), (1, .int x1)] [] z := fun x1 z hF => ih x1 z hF
    generalize f_it (b_be_moveUp_2 ) n = k2 at hF K2
    unfold b_be_moveUp_2 at hF
    dsimp only at hF
    refine lv_iload_n hx hb d_be_moveUp_2 rfl (lv_at hl 1 rfl) ?_
    refine lv_aload_n hx hb d_be_moveUp_3 rfl (lv_at hl 0 rfl) ?_
    refine hw_get (k := 11) (i := 0) (n := 1) (j := 1) (v := .int (f_gI z 11 0 1)) hx hb hts hown hK hW fl_be_18 rfl (by omega) rfl d_be_moveUp_4 ?_
    refine lv_icmp_ge (tgt := 31) hx hb d_be_moveUp_7 (by decide) (fun h1 => ?_) (fun h1 => ?_)
    · replace hF := (if_pos h1).symm.trans hF
      exact hw_vret hx hb hr hlk hW hS (by omega) (by omega) d_be_moveUp_31 hF
    · replace hF := (if_neg h1).symm.trans hF
      refine lv_aload_n hx hb d_be_moveUp_10 rfl (lv_at hl 0 rfl) ?_
      refine hw_get (k := 11) (i := 0) (n := 1) (j := 0) (v := .ref (L 12 0)) hx hb hts hown hK hW fl_be_11 rfl (by omega) rfl d_be_moveUp_11 ?_
      refine lv_iload_n hx hb d_be_moveUp_14 rfl (lv_at hl 1 rfl) ?_
      obtain ⟨g2, hF⟩ := f_gd_some hF
      obtain ⟨g3, hF⟩ := f_gd_some hF
      have g3 := of_decide_eq_true g3
      refine hw_rald hx hb hK hW g2 d_be_moveUp_15 ?_
      refine lv_dup hx hb d_be_moveUp_16 rfl ?_
      refine hw_get (k := 13) (i := f_gR z (f_ix x1)) (n := 16) (j := 4) (v := .int (f_gI z 13 (f_gR z (f_ix x1)) 4)) hx hb hts hown hK hW fl_be_40 rfl (by omega) rfl d_be_moveUp_17 ?_
      refine lv_iconst (v := 1) hx hb d_be_moveUp_20 (by decide) ?_
      refine lv_iadd hx hb d_be_moveUp_21 ?_
      refine hw_put (k := 13) (i := f_gR z (f_ix x1)) (n := 16) (j := 4) (v := (f_gI z 13 (f_gR z (f_ix x1)) 4) + 1) hx hb hts hown hK hLi hW hS fp_be_40 (vp_nar_int _) rfl rfl (by omega) d_be_moveUp_22 (fun H locs hW hS => ?_)
      refine lv_iinc (k := 1) (x := x1) (v := x1 + 1) (lv' := [(1, .int (x1 + 1)), (0, .ref (L 11 0))]) hx hb d_be_moveUp_25 hl rfl rfl (by decide) rfl (fun ls hl => ?_)
      refine lv_goto (tgt := 2) hx hb d_be_moveUp_28 (by decide) ?_
      exact K2 (x1 + 1) (f_pI z 13 (f_gR z (f_ix x1)) 4 ((f_gI z 13 (f_gR z (f_ix x1)) 4) + 1)) hF _ _ _ _ _ hW hS (lv_sub hl [1, 0] rfl) (by omega) (by omega)
  intro H locs ls cells slots hW hS hl hc hs
  have hl : lv_has ls 2 [(0, .ref (L 11 0))] := hl
  unfold F_be_moveUp at hF
  refine lv_iconst (v := 0) hx hb d_be_moveUp_0 (by decide) ?_
  refine lv_istore_n (lv' := [(1, .int 0), (0, .ref (L 11 0))]) hx hb d_be_moveUp_1 rfl hl (by decide) rfl (fun ls hl => ?_)
  exact B2 2000 0 z hF _ _ _ _ _ hW hS (lv_sub hl [1, 0] rfl) (by omega) (by omega)
set_option maxRecDepth 100000 in
set_option maxHeartbeats 4000000 in
theorem c_ca_kindOf_ok (l : Launch) (hl0 : l.stackTraces = false) {L : Nat → Nat → Nat} {Ar : Nat → ClassId} {D : va_G} {b0 : Nat} (hLi : f_L L b0) (a1 : Nat) (h_a1 : a1 < 16) (z : fST) (r : Int32) (z' : fST) (hF : F_ca_kindOf a1 z = some (r, z')) : f_C l y_ca_kindOf wt 2 0 L Ar D b0 [.ref (L 1 0), .ref (L 13 a1)] z (.inl (some (.int r))) z' := by
  refine f_ofW (cc := c_ca_kindOf) (maxL := 2) (ret := (some FieldType.int)) (by decide) w_ca_kindOf (Nat.le_of_ble_eq_true rfl) ?_
  intro p e s m args below meth c R hRf hRl hRc hRs hx hb hr hlk hml hno hts hown hK hZ hsz
  intro H locs ls cells slots hW hS hl hc hs
  have hl : lv_has ls 2 [(0, .ref (L 1 0)), (1, .ref (L 13 a1))] := hl
  unfold F_ca_kindOf at hF
  refine lv_aload_n hx hb d_ca_kindOf_0 rfl (lv_at hl 1 rfl) ?_
  refine hw_get (k := 13) (i := a1) (n := 16) (j := 0) (v := .ref (L 14 a1)) hx hb hts hown hK hW fl_ca_38 rfl (by omega) rfl d_ca_kindOf_1 ?_
  refine hw_get (k := 14) (i := a1) (n := 32) (j := 1) (v := .int (f_gI z 14 a1 1)) hx hb hts hown hK hW fl_ca_43 rfl (by omega) rfl d_ca_kindOf_4 ?_
  refine lv_if_ne (tgt := 14) hx hb d_ca_kindOf_7 (by decide) (fun h1 => ?_) (fun h1 => ?_)
  · replace hF := (if_neg h1).symm.trans hF
    refine lv_aload_n hx hb d_ca_kindOf_14 rfl (lv_at hl 0 rfl) ?_
    refine lv_aload_n hx hb d_ca_kindOf_15 rfl (lv_at hl 1 rfl) ?_
    refine hw_get (k := 13) (i := a1) (n := 16) (j := 0) (v := .ref (L 14 a1)) hx hb hts hown hK hW fl_ca_38 rfl (by omega) rfl d_ca_kindOf_16 ?_
    refine hw_get (k := 14) (i := a1) (n := 32) (j := 0) (v := .ref (L 15 a1)) hx hb hts hown hK hW fl_ca_49 rfl (by omega) rfl d_ca_kindOf_19 ?_
    refine lv_iconst (v := 0) hx hb d_ca_kindOf_22 (by decide) ?_
    obtain ⟨g2, hF⟩ := f_gd_some hF
    refine hw_iald (k := 15) (i := a1) (n := 32) hx hb hK hW (by decide) rfl (by omega) rfl g2 d_ca_kindOf_23 ?_
    obtain ⟨v3, z3, hc3, hF⟩ := f_bd_some hF
    refine hw_VR (k := 1) (i := 0) (nk := 1) (As := [.int (f_gI z 15 a1 (f_ix 0))]) (rest := []) hx hb hml hown hts (c_ca_kindWith_ok l hl0 hLi (f_gI z 15 a1 (f_ix 0))  _ _ _ hc3) st_ca_52 (by decide) rfl (by omega) rfl rfl hK hZ hsz hS hW rfl hl.1 (Nat.le_of_ble_eq_true rfl) d_ca_kindOf_24 (by omega) (by omega) (by omega) (by omega) (fun H locs hW hS => ?_)
    exact hw_iret hx hb hr hlk (vp_nar_int _) hW hS (by omega) (by omega) d_ca_kindOf_27 hF
  · replace hF := (if_pos h1).symm.trans hF
    refine lv_iconst (v := (-1)) hx hb d_ca_kindOf_10 (by decide) ?_
    refine lv_goto (tgt := 27) hx hb d_ca_kindOf_11 (by decide) ?_
    exact hw_iret hx hb hr hlk (vp_nar_int _) hW hS (by omega) (by omega) d_ca_kindOf_27 hF
set_option maxRecDepth 100000 in
set_option maxHeartbeats 4000000 in
theorem c_ro_isUniform_ok (l : Launch) (hl0 : l.stackTraces = false) {L : Nat → Nat → Nat} {Ar : Nat → ClassId} {D : va_G} {b0 : Nat} (hLi : f_L L b0) (a0 : Nat) (h_a0 : a0 < 32) (z : fST) (r : Int32) (z' : fST) (hF : F_ro_isUniform a0 z = some (r, z')) : f_C l y_ro_isUniform wt 1 0 L Ar D b0 [.ref (L 14 a0)] z (.inl (some (.int r))) z' := by
  refine f_ofW (cc := c_ro_isUniform) (maxL := 2) (ret := (some FieldType.boolean)) (by decide) w_ro_isUniform (Nat.le_of_ble_eq_true rfl) ?_
  intro p e s m args below meth c R hRf hRl hRc hRs hx hb hr hlk hml hno hts hown hK hZ hsz
  have B2 : ∀  (n : Nat) (x0 : Nat) (x1 : Int32) (z : fST), f_it (b_ro_isUniform_2 ) n (x0, x1, z) = some (r, z') → x0 < 32 → f_B p l e R s m args below meth c L Ar D b0 2 0 (f_E below args s L Ar D b0 0 (.inl (some (.int r))) z') 0 2 [(0, .ref (L 14 x0)), (1, .int x1)] [] z := by
    intro  n
    induction n with
    | zero => intro x0 x1 z hF; cases hF
    | succ n ih =>
    intro x0 x1 z hF h_x0 H locs ls cells slots hW hS hl hc hs
    replace hF := f_it_s hF
    have K2 : ∀ (x0 : Nat) (x1 : Int32) (z : fST), f_it (b_ro_isUniform_2 ) n (x0, x1, z) = some (r, z') → x0 < 32 → f_B p l e R s m args below meth c L Ar D b0 2 0 (f_E below args s L Ar D b0 0 (.inl (some (.int r))) z') 0 2 [(0, .ref (L 14 x0)), (1, .int x1)] [] z := fun x0 x1 z hF => ih x0 x1 z hF
    generalize f_it (b_ro_isUniform_2 ) n = k2 at hF K2
    unfold b_ro_isUniform_2 at hF
    dsimp only at hF
    refine lv_iload_n hx hb d_ro_isUniform_2 rfl (lv_at hl 1 rfl) ?_
    refine lv_aload_n hx hb d_ro_isUniform_3 rfl (lv_at hl 0 rfl) ?_
    refine hw_get (k := 14) (i := x0) (n := 32) (j := 1) (v := .int (f_gI z 14 x0 1)) hx hb hts hown hK hW fl_ro_13 rfl (by omega) rfl d_ro_isUniform_4 ?_
    refine lv_icmp_ge (tgt := 33) hx hb d_ro_isUniform_7 (by decide) (fun h1 => ?_) (fun h1 => ?_)
    · replace hF := (if_pos h1).symm.trans hF
      refine lv_iconst (v := 1) hx hb d_ro_isUniform_33 (by decide) ?_
      exact hw_iret hx hb hr hlk (f_nZ (Or.inr rfl)) hW hS (by omega) (by omega) d_ro_isUniform_34 hF
    · replace hF := (if_neg h1).symm.trans hF
      refine lv_aload_n hx hb d_ro_isUniform_10 rfl (lv_at hl 0 rfl) ?_
      refine hw_get (k := 14) (i := x0) (n := 32) (j := 0) (v := .ref (L 15 x0)) hx hb hts hown hK hW fl_ro_7 rfl (by omega) rfl d_ro_isUniform_11 ?_
      refine lv_iload_n hx hb d_ro_isUniform_14 rfl (lv_at hl 1 rfl) ?_
      obtain ⟨g2, hF⟩ := f_gd_some hF
      refine hw_iald (k := 15) (i := x0) (n := 32) hx hb hK hW (by decide) rfl (by omega) rfl g2 d_ro_isUniform_15 ?_
      refine lv_aload_n hx hb d_ro_isUniform_16 rfl (lv_at hl 0 rfl) ?_
      refine hw_get (k := 14) (i := x0) (n := 32) (j := 0) (v := .ref (L 15 x0)) hx hb hts hown hK hW fl_ro_7 rfl (by omega) rfl d_ro_isUniform_17 ?_
      refine lv_iconst (v := 0) hx hb d_ro_isUniform_20 (by decide) ?_
      obtain ⟨g3, hF⟩ := f_gd_some hF
      refine hw_iald (k := 15) (i := x0) (n := 32) hx hb hK hW (by decide) rfl (by omega) rfl g3 d_ro_isUniform_21 ?_
      refine lv_icmp_eq (tgt := 27) hx hb d_ro_isUniform_22 (by decide) (fun h4 => ?_) (fun h4 => ?_)
      · replace hF := (if_pos h4).symm.trans hF
        refine lv_iinc (k := 1) (x := x1) (v := x1 + 1) (lv' := [(1, .int (x1 + 1)), (0, .ref (L 14 x0))]) hx hb d_ro_isUniform_27 hl rfl rfl (by decide) rfl (fun ls hl => ?_)
        refine lv_goto (tgt := 2) hx hb d_ro_isUniform_30 (by decide) ?_
        exact K2 x0 (x1 + 1) z hF (by omega) _ _ _ _ _ hW hS (lv_sub hl [1, 0] rfl) (by omega) (by omega)
      · replace hF := (if_neg h4).symm.trans hF
        refine lv_iconst (v := 0) hx hb d_ro_isUniform_25 (by decide) ?_
        exact hw_iret hx hb hr hlk (f_nZ (Or.inl rfl)) hW hS (by omega) (by omega) d_ro_isUniform_26 hF
  intro H locs ls cells slots hW hS hl hc hs
  have hl : lv_has ls 2 [(0, .ref (L 14 a0))] := hl
  unfold F_ro_isUniform at hF
  refine lv_iconst (v := 1) hx hb d_ro_isUniform_0 (by decide) ?_
  refine lv_istore_n (lv' := [(1, .int 1), (0, .ref (L 14 a0))]) hx hb d_ro_isUniform_1 rfl hl (by decide) rfl (fun ls hl => ?_)
  exact B2 2000 a0 1 z hF (by omega) _ _ _ _ _ hW hS (lv_sub hl [1, 0] rfl) (by omega) (by omega)
set_option maxRecDepth 100000 in
set_option maxHeartbeats 4000000 in
theorem c_ca_allowsWeight_ok (l : Launch) (hl0 : l.stackTraces = false) {L : Nat → Nat → Nat} {Ar : Nat → ClassId} {D : va_G} {b0 : Nat} (hLi : f_L L b0) (a1 : Int32) (a2 : Int32)  (z : fST) (r : Int32) (z' : fST) (hF : F_ca_allowsWeight a1 a2 z = some (r, z')) : f_C l y_ca_allowsWeight wt 2 0 L Ar D b0 [.ref (L 1 0), .int a1, .int a2] z (.inl (some (.int r))) z' := by
  refine f_ofW (cc := c_ca_allowsWeight) (maxL := 3) (ret := (some FieldType.boolean)) (by decide) w_ca_allowsWeight (Nat.le_of_ble_eq_true rfl) ?_
  intro p e s m args below meth c R hRf hRl hRc hRs hx hb hr hlk hml hno hts hown hK hZ hsz
  intro H locs ls cells slots hW hS hl hc hs
  have hl : lv_has ls 3 [(0, .ref (L 1 0)), (1, .int a1), (2, .int a2)] := hl
  unfold F_ca_allowsWeight at hF
  refine lv_iload_n hx hb d_ca_allowsWeight_0 rfl (lv_at hl 2 rfl) ?_
  refine lv_iconst (v := (-1)) hx hb d_ca_allowsWeight_1 (by decide) ?_
  refine lv_icmp_eq (tgt := 28) hx hb d_ca_allowsWeight_2 (by decide) (fun h1 => ?_) (fun h1 => ?_)
  · replace hF := (if_pos h1).symm.trans hF
    refine lv_iconst (v := 0) hx hb d_ca_allowsWeight_28 (by decide) ?_
    exact hw_iret hx hb hr hlk (f_nZ (Or.inl rfl)) hW hS (by omega) (by omega) d_ca_allowsWeight_29 hF
  · replace hF := (if_neg h1).symm.trans hF
    refine lv_iload_n hx hb d_ca_allowsWeight_5 rfl (lv_at hl 2 rfl) ?_
    refine lv_aload_n hx hb d_ca_allowsWeight_6 rfl (lv_at hl 0 rfl) ?_
    refine hw_get (k := 1) (i := 0) (n := 1) (j := 3) (v := .ref (L 5 0)) hx hb hts hown hK hW fl_ca_21 rfl (by omega) rfl d_ca_allowsWeight_7 ?_
    refine lv_iload_n hx hb d_ca_allowsWeight_10 rfl (lv_at hl 1 rfl) ?_
    obtain ⟨g2, hF⟩ := f_gd_some hF
    refine hw_iald (k := 5) (i := 0) (n := 1) hx hb hK hW (by decide) rfl (by omega) rfl g2 d_ca_allowsWeight_11 ?_
    refine lv_aload_n hx hb d_ca_allowsWeight_12 rfl (lv_at hl 0 rfl) ?_
    refine hw_get (k := 1) (i := 0) (n := 1) (j := 4) (v := .ref (L 6 0)) hx hb hts hown hK hW fl_ca_24 rfl (by omega) rfl d_ca_allowsWeight_13 ?_
    refine lv_iload_n hx hb d_ca_allowsWeight_16 rfl (lv_at hl 1 rfl) ?_
    obtain ⟨g3, hF⟩ := f_gd_some hF
    refine hw_iald (k := 6) (i := 0) (n := 1) hx hb hK hW (by decide) rfl (by omega) rfl g3 d_ca_allowsWeight_17 ?_
    obtain ⟨v4, z4, hc4, hF⟩ := f_bd_some hF
    refine hw_SN (As := [.int a2, .int (f_gI z 5 0 (f_ix a1)), .int (f_gI z 6 0 (f_ix a1))]) (rest := []) hx hb hml hown hts (c_b_isWithin_ok l hl0 hLi a2 (f_gI z 5 0 (f_ix a1)) (f_gI z 6 0 (f_ix a1))  _ _ _ hc4) st_ca_56 (hZ.2.1 _ (List.mem_of_getElem? (i := 530) (by decide +kernel)) rfl) hK hZ hsz hS hW rfl hl.1 (Nat.le_of_ble_eq_true rfl) d_ca_allowsWeight_18 (by omega) (by omega) (by omega) (by omega) (fun H locs hW hS => ?_)
    refine lv_if_eq (tgt := 28) hx hb d_ca_allowsWeight_21 (by decide) (fun h5 => ?_) (fun h5 => ?_)
    · replace hF := (if_pos h5).symm.trans hF
      refine lv_iconst (v := 0) hx hb d_ca_allowsWeight_28 (by decide) ?_
      exact hw_iret hx hb hr hlk (f_nZ (Or.inl rfl)) hW hS (by omega) (by omega) d_ca_allowsWeight_29 hF
    · replace hF := (if_neg h5).symm.trans hF
      refine lv_iconst (v := 1) hx hb d_ca_allowsWeight_24 (by decide) ?_
      refine lv_goto (tgt := 29) hx hb d_ca_allowsWeight_25 (by decide) ?_
      exact hw_iret hx hb hr hlk (f_nZ (Or.inr rfl)) hW hS (by omega) (by omega) d_ca_allowsWeight_29 hF
set_option maxRecDepth 100000 in
set_option maxHeartbeats 4000000 in
theorem c_ca_allowsWidths_ok (l : Launch) (hl0 : l.stackTraces = false) {L : Nat → Nat → Nat} {Ar : Nat → ClassId} {D : va_G} {b0 : Nat} (hLi : f_L L b0) (a1 : Int32) (a2 : Nat) (h_a2 : a2 < 32) (z : fST) (r : Int32) (z' : fST) (hF : F_ca_allowsWidths a1 a2 z = some (r, z')) : f_C l y_ca_allowsWidths wt 2 0 L Ar D b0 [.ref (L 1 0), .int a1, .ref (L 14 a2)] z (.inl (some (.int r))) z' := by
  refine f_ofW (cc := c_ca_allowsWidths) (maxL := 6) (ret := (some FieldType.boolean)) (by decide) w_ca_allowsWidths (Nat.le_of_ble_eq_true rfl) ?_
  intro p e s m args below meth c R hRf hRl hRc hRs hx hb hr hlk hml hno hts hown hK hZ hsz
  have B22 : ∀  (n : Nat) (x2 : Nat) (x3 : Int32) (x4 : Int32) (x5 : Int32) (z : fST), f_it (b_ca_allowsWidths_22 ) n (x2, x3, x4, x5, z) = some (r, z') → x2 < 32 → f_B p l e R s m args below meth c L Ar D b0 6 0 (f_E below args s L Ar D b0 0 (.inl (some (.int r))) z') 0 22 [(0, .ref (L 1 0)), (2, .ref (L 14 x2)), (3, .int x3), (4, .int x4), (5, .int x5)] [] z := by
    intro  n
    induction n with
    | zero => intro x2 x3 x4 x5 z hF; cases hF
    | succ n ih =>
    intro x2 x3 x4 x5 z hF h_x2 H locs ls cells slots hW hS hl hc hs
    replace hF := f_it_s hF
    have K22 : ∀ (x2 : Nat) (x3 : Int32) (x4 : Int32) (x5 : Int32) (z : fST), f_it (b_ca_allowsWidths_22 ) n (x2, x3, x4, x5, z) = some (r, z') → x2 < 32 → f_B p l e R s m args below meth c L Ar D b0 6 0 (f_E below args s L Ar D b0 0 (.inl (some (.int r))) z') 0 22 [(0, .ref (L 1 0)), (2, .ref (L 14 x2)), (3, .int x3), (4, .int x4), (5, .int x5)] [] z := fun x2 x3 x4 x5 z hF => ih x2 x3 x4 x5 z hF
    generalize f_it (b_ca_allowsWidths_22 ) n = k22 at hF K22
    unfold b_ca_allowsWidths_22 at hF
    dsimp only at hF
    refine lv_iload hx hb d_ca_allowsWidths_22 (lv_at hl 4 rfl) ?_
    refine lv_bipush (v := 8) hx hb d_ca_allowsWidths_24 (by decide) ?_
    refine lv_icmp_ge (tgt := 60) hx hb d_ca_allowsWidths_26 (by decide) (fun h4 => ?_) (fun h4 => ?_)
    · replace hF := (if_pos h4).symm.trans hF
      refine lv_iload hx hb d_ca_allowsWidths_60 (lv_at hl 3 rfl) ?_
      refine lv_aload_n hx hb d_ca_allowsWidths_62 rfl (lv_at hl 0 rfl) ?_
      refine hw_get (k := 1) (i := 0) (n := 1) (j := 7) (v := .ref (L 10 0)) hx hb hts hown hK hW fl_ca_35 rfl (by omega) rfl d_ca_allowsWidths_63 ?_
      refine lv_iload_n hx hb d_ca_allowsWidths_66 rfl (lv_at hl 2 rfl) ?_
      obtain ⟨g5, hF⟩ := f_gd_some hF
      refine hw_iald (k := 10) (i := 0) (n := 1) hx hb hK hW (by decide) rfl (by omega) rfl g5 d_ca_allowsWidths_67 ?_
      refine lv_icmp_gt (tgt := 75) hx hb d_ca_allowsWidths_68 (by decide) (fun h6 => ?_) (fun h6 => ?_)
      · replace hF := (if_pos h6).symm.trans hF
        refine lv_iconst (v := 0) hx hb d_ca_allowsWidths_75 (by decide) ?_
        exact hw_iret hx hb hr hlk (f_nZ (Or.inl rfl)) hW hS (by omega) (by omega) d_ca_allowsWidths_76 hF
      · replace hF := (if_neg h6).symm.trans hF
        refine lv_iconst (v := 1) hx hb d_ca_allowsWidths_71 (by decide) ?_
        refine lv_goto (tgt := 76) hx hb d_ca_allowsWidths_72 (by decide) ?_
        exact hw_iret hx hb hr hlk (f_nZ (Or.inr rfl)) hW hS (by omega) (by omega) d_ca_allowsWidths_76 hF
    · replace hF := (if_neg h4).symm.trans hF
      refine lv_iload hx hb d_ca_allowsWidths_29 (lv_at hl 3 rfl) ?_
      refine lv_aload_n hx hb d_ca_allowsWidths_31 rfl (lv_at hl 1 rfl) ?_
      refine hw_get (k := 14) (i := x2) (n := 32) (j := 0) (v := .ref (L 15 x2)) hx hb hts hown hK hW fl_ca_49 rfl (by omega) rfl d_ca_allowsWidths_32 ?_
      refine lv_iload hx hb d_ca_allowsWidths_35 (lv_at hl 4 rfl) ?_
      obtain ⟨g7, hF⟩ := f_gd_some hF
      refine hw_iald (k := 15) (i := x2) (n := 32) hx hb hK hW (by decide) rfl (by omega) rfl g7 d_ca_allowsWidths_37 ?_
      refine lv_aload_n hx hb d_ca_allowsWidths_38 rfl (lv_at hl 0 rfl) ?_
      refine hw_get (k := 1) (i := 0) (n := 1) (j := 6) (v := .ref (L 8 0)) hx hb hts hown hK hW fl_ca_32 rfl (by omega) rfl d_ca_allowsWidths_39 ?_
      refine lv_iload_n hx hb d_ca_allowsWidths_42 rfl (lv_at hl 2 rfl) ?_
      obtain ⟨g8, hF⟩ := f_gd_some hF
      have g8_lt := f_ib_lt g8
      refine hw_wald hx hb hK hW g8 d_ca_allowsWidths_43 ?_
      refine lv_iload hx hb d_ca_allowsWidths_44 (lv_at hl 4 rfl) ?_
      obtain ⟨g9, hF⟩ := f_gd_some hF
      refine hw_iald (k := 9) (i := f_ix x3) (n := 8) hx hb hK hW (by decide) rfl (by omega) rfl g9 d_ca_allowsWidths_46 ?_
      refine lv_isub hx hb d_ca_allowsWidths_47 ?_
      refine hw_abs hx hb hml hl.1 hown hts st_ca_64 (by omega) (Nat.le_trans (Nat.le_of_ble_eq_true rfl : _ ≤ 40 * 2) (Nat.le_of_eq hRl.symm)) (by omega) (by omega) d_ca_allowsWidths_48 ?_
      refine lv_iadd hx hb d_ca_allowsWidths_51 ?_
      refine lv_istore (lv' := [(4, .int (x4 + (f_ab ((f_gI z 15 x2 (f_ix x5)) - (f_gI z 9 (f_ix x3) (f_ix x5)))))), (0, .ref (L 1 0)), (2, .ref (L 14 x2)), (3, .int x3), (5, .int x5)]) hx hb d_ca_allowsWidths_52 hl (by decide) rfl (fun ls hl => ?_)
      refine lv_iinc (k := 4) (x := x5) (v := x5 + 1) (lv' := [(5, .int (x5 + 1)), (4, .int (x4 + (f_ab ((f_gI z 15 x2 (f_ix x5)) - (f_gI z 9 (f_ix x3) (f_ix x5)))))), (0, .ref (L 1 0)), (2, .ref (L 14 x2)), (3, .int x3)]) hx hb d_ca_allowsWidths_54 hl rfl rfl (by decide) rfl (fun ls hl => ?_)
      refine lv_goto (tgt := 22) hx hb d_ca_allowsWidths_57 (by decide) ?_
      exact K22 x2 x3 (x4 + (f_ab ((f_gI z 15 x2 (f_ix x5)) - (f_gI z 9 (f_ix x3) (f_ix x5))))) (x5 + 1) z hF (by omega) _ _ _ _ _ hW hS (lv_sub hl [2, 3, 4, 1, 0] rfl) (by omega) (by omega)
  intro H locs ls cells slots hW hS hl hc hs
  have hl : lv_has ls 6 [(0, .ref (L 1 0)), (1, .int a1), (2, .ref (L 14 a2))] := hl
  unfold F_ca_allowsWidths at hF
  refine lv_aload_n hx hb d_ca_allowsWidths_0 rfl (lv_at hl 2 rfl) ?_
  obtain ⟨v1, z1, hc1, hF⟩ := f_bd_some hF
  refine hw_VR (k := 14) (i := a2) (nk := 32) (As := []) (rest := []) hx hb hml hown hts (c_ro_isFull_ok l hl0 hLi a2 (by omega) _ _ _ hc1) st_ca_60 (by decide) rfl (by omega) rfl rfl hK hZ hsz hS hW rfl hl.1 (Nat.le_of_ble_eq_true rfl) d_ca_allowsWidths_1 (by omega) (by omega) (by omega) (by omega) (fun H locs hW hS => ?_)
  refine lv_if_ne (tgt := 9) hx hb d_ca_allowsWidths_4 (by decide) (fun h2 => ?_) (fun h2 => ?_)
  · replace hF := (if_neg h2).symm.trans hF
    refine lv_aload_n hx hb d_ca_allowsWidths_9 rfl (lv_at hl 0 rfl) ?_
    refine hw_get (k := 1) (i := 0) (n := 1) (j := 5) (v := .ref (L 7 0)) hx hb hts hown hK hW fl_ca_27 rfl (by omega) rfl d_ca_allowsWidths_10 ?_
    refine lv_iload_n hx hb d_ca_allowsWidths_13 rfl (lv_at hl 1 rfl) ?_
    obtain ⟨g3, hF⟩ := f_gd_some hF
    refine hw_iald (k := 7) (i := 0) (n := 1) hx hb hK hW (by decide) rfl (by omega) rfl g3 d_ca_allowsWidths_14 ?_
    refine lv_istore_n (lv' := [(3, .int (f_gI z1 7 0 (f_ix a1))), (0, .ref (L 1 0)), (1, .int a1), (2, .ref (L 14 a2))]) hx hb d_ca_allowsWidths_15 rfl hl (by decide) rfl (fun ls hl => ?_)
    refine lv_iconst (v := 0) hx hb d_ca_allowsWidths_16 (by decide) ?_
    refine lv_istore (lv' := [(4, .int 0), (3, .int (f_gI z1 7 0 (f_ix a1))), (0, .ref (L 1 0)), (1, .int a1), (2, .ref (L 14 a2))]) hx hb d_ca_allowsWidths_17 hl (by decide) rfl (fun ls hl => ?_)
    refine lv_iconst (v := 0) hx hb d_ca_allowsWidths_19 (by decide) ?_
    refine lv_istore (lv' := [(5, .int 0), (4, .int 0), (3, .int (f_gI z1 7 0 (f_ix a1))), (0, .ref (L 1 0)), (1, .int a1), (2, .ref (L 14 a2))]) hx hb d_ca_allowsWidths_20 hl (by decide) rfl (fun ls hl => ?_)
    exact B22 2000 a2 (f_gI z1 7 0 (f_ix a1)) 0 0 z1 hF (by omega) _ _ _ _ _ hW hS (lv_sub hl [3, 5, 2, 1, 0] rfl) (by omega) (by omega)
  · replace hF := (if_pos h2).symm.trans hF
    refine lv_iconst (v := 0) hx hb d_ca_allowsWidths_7 (by decide) ?_
    exact hw_iret hx hb hr hlk (f_nZ (Or.inl rfl)) hW hS (by omega) (by omega) d_ca_allowsWidths_8 hF
set_option maxRecDepth 100000 in
set_option maxHeartbeats 4000000 in
theorem c_b_judgementByReadings_ok (l : Launch) (hl0 : l.stackTraces = false) {L : Nat → Nat → Nat} {Ar : Nat → ClassId} {D : va_G} {b0 : Nat} (hLi : f_L L b0) (a1 : Nat) (a2 : Int32) (h_a1 : a1 < 16) (z : fST) (r : Int32) (z' : fST) (hF : F_b_judgementByReadings a1 a2 z = some (r, z')) : f_C l y_b_judgementByReadings wt 3 0 L Ar D b0 [.ref (L 0 0), .ref (L 13 a1), .int a2] z (.inl (some (.int r))) z' := by
  refine f_ofW (cc := c_b_judgementByReadings) (maxL := 3) (ret := (some FieldType.int)) (by decide) w_b_judgementByReadings (Nat.le_of_ble_eq_true rfl) ?_
  intro p e s m args below meth c R hRf hRl hRc hRs hx hb hr hlk hml hno hts hown hK hZ hsz
  intro H locs ls cells slots hW hS hl hc hs
  have hl : lv_has ls 3 [(0, .ref (L 0 0)), (1, .ref (L 13 a1)), (2, .int a2)] := hl
  unfold F_b_judgementByReadings at hF
  refine lv_aload_n hx hb d_b_judgementByReadings_0 rfl (lv_at hl 1 rfl) ?_
  refine hw_get (k := 13) (i := a1) (n := 16) (j := 0) (v := .ref (L 14 a1)) hx hb hts hown hK hW fl_b_97 rfl (by omega) rfl d_b_judgementByReadings_1 ?_
  refine hw_get (k := 14) (i := a1) (n := 32) (j := 1) (v := .int (f_gI z 14 a1 1)) hx hb hts hown hK hW fl_b_231 rfl (by omega) rfl d_b_judgementByReadings_4 ?_
  refine lv_if_ne (tgt := 12) hx hb d_b_judgementByReadings_7 (by decide) (fun h1 => ?_) (fun h1 => ?_)
  · replace hF := (if_neg h1).symm.trans hF
    refine lv_aload_n hx hb d_b_judgementByReadings_12 rfl (lv_at hl 1 rfl) ?_
    refine hw_get (k := 13) (i := a1) (n := 16) (j := 0) (v := .ref (L 14 a1)) hx hb hts hown hK hW fl_b_97 rfl (by omega) rfl d_b_judgementByReadings_13 ?_
    obtain ⟨v2, z2, hc2, hF⟩ := f_bd_some hF
    refine hw_VR (k := 14) (i := a1) (nk := 32) (As := []) (rest := []) hx hb hml hown hts (c_ro_isUniform_ok l hl0 hLi a1 (by omega) _ _ _ hc2) st_b_285 (by decide) rfl (by omega) rfl rfl hK hZ hsz hS hW rfl hl.1 (Nat.le_of_ble_eq_true rfl) d_b_judgementByReadings_16 (by omega) (by omega) (by omega) (by omega) (fun H locs hW hS => ?_)
    refine lv_if_ne (tgt := 24) hx hb d_b_judgementByReadings_19 (by decide) (fun h3 => ?_) (fun h3 => ?_)
    · replace hF := (if_neg h3).symm.trans hF
      refine lv_iload_n hx hb d_b_judgementByReadings_24 rfl (lv_at hl 2 rfl) ?_
      refine lv_iconst (v := (-1)) hx hb d_b_judgementByReadings_25 (by decide) ?_
      refine lv_icmp_ne (tgt := 31) hx hb d_b_judgementByReadings_26 (by decide) (fun h4 => ?_) (fun h4 => ?_)
      · replace hF := (if_neg h4).symm.trans hF
        refine lv_aload_n hx hb d_b_judgementByReadings_31 rfl (lv_at hl 0 rfl) ?_
        refine hw_get (k := 0) (i := 0) (n := 1) (j := 0) (v := .ref (L 1 0)) hx hb hts hown hK hW fl_b_12 rfl (by omega) rfl d_b_judgementByReadings_32 ?_
        refine lv_iload_n hx hb d_b_judgementByReadings_35 rfl (lv_at hl 2 rfl) ?_
        refine lv_aload_n hx hb d_b_judgementByReadings_36 rfl (lv_at hl 1 rfl) ?_
        refine hw_get (k := 13) (i := a1) (n := 16) (j := 5) (v := .int (f_gI z2 13 a1 5)) hx hb hts hown hK hW fl_b_112 rfl (by omega) rfl d_b_judgementByReadings_37 ?_
        obtain ⟨v5, z5, hc5, hF⟩ := f_bd_some hF
        refine hw_VR (k := 1) (i := 0) (nk := 1) (As := [.int a2, .int (f_gI z2 13 a1 5)]) (rest := []) hx hb hml hown hts (c_ca_allowsWeight_ok l hl0 hLi a2 (f_gI z2 13 a1 5)  _ _ _ hc5) st_b_288 (by decide) rfl (by omega) rfl rfl hK hZ hsz hS hW rfl hl.1 (Nat.le_of_ble_eq_true rfl) d_b_judgementByReadings_40 (by omega) (by omega) (by omega) (by omega) (fun H locs hW hS => ?_)
        refine lv_if_ne (tgt := 48) hx hb d_b_judgementByReadings_43 (by decide) (fun h6 => ?_) (fun h6 => ?_)
        · replace hF := (if_neg h6).symm.trans hF
          refine lv_aload_n hx hb d_b_judgementByReadings_48 rfl (lv_at hl 0 rfl) ?_
          refine hw_get (k := 0) (i := 0) (n := 1) (j := 0) (v := .ref (L 1 0)) hx hb hts hown hK hW fl_b_12 rfl (by omega) rfl d_b_judgementByReadings_49 ?_
          refine lv_iload_n hx hb d_b_judgementByReadings_52 rfl (lv_at hl 2 rfl) ?_
          refine lv_aload_n hx hb d_b_judgementByReadings_53 rfl (lv_at hl 1 rfl) ?_
          refine hw_get (k := 13) (i := a1) (n := 16) (j := 1) (v := .ref (L 14 (a1 + 16))) hx hb hts hown hK hW fl_b_109 rfl (by omega) rfl d_b_judgementByReadings_54 ?_
          obtain ⟨v7, z7, hc7, hF⟩ := f_bd_some hF
          refine hw_VR (k := 1) (i := 0) (nk := 1) (As := [.int a2, .ref (L 14 (a1 + 16))]) (rest := []) hx hb hml hown hts (c_ca_allowsWidths_ok l hl0 hLi a2 (a1 + 16) (by omega) _ _ _ hc7) st_b_291 (by decide) rfl (by omega) rfl rfl hK hZ hsz hS hW rfl hl.1 (Nat.le_of_ble_eq_true rfl) d_b_judgementByReadings_57 (by omega) (by omega) (by omega) (by omega) (fun H locs hW hS => ?_)
          refine lv_if_ne (tgt := 65) hx hb d_b_judgementByReadings_60 (by decide) (fun h8 => ?_) (fun h8 => ?_)
          · replace hF := (if_neg h8).symm.trans hF
            refine lv_bipush (v := 10) hx hb d_b_judgementByReadings_65 (by decide) ?_
            exact hw_iret hx hb hr hlk (vp_nar_int _) hW hS (by omega) (by omega) d_b_judgementByReadings_67 hF
          · replace hF := (if_pos h8).symm.trans hF
            refine lv_iconst (v := 5) hx hb d_b_judgementByReadings_63 (by decide) ?_
            exact hw_iret hx hb hr hlk (vp_nar_int _) hW hS (by omega) (by omega) d_b_judgementByReadings_64 hF
        · replace hF := (if_pos h6).symm.trans hF
          refine lv_iconst (v := 4) hx hb d_b_judgementByReadings_46 (by decide) ?_
          exact hw_iret hx hb hr hlk (vp_nar_int _) hW hS (by omega) (by omega) d_b_judgementByReadings_47 hF
      · replace hF := (if_pos h4).symm.trans hF
        refine lv_iconst (v := 3) hx hb d_b_judgementByReadings_29 (by decide) ?_
        exact hw_iret hx hb hr hlk (vp_nar_int _) hW hS (by omega) (by omega) d_b_judgementByReadings_30 hF
    · replace hF := (if_pos h3).symm.trans hF
      refine lv_iconst (v := 2) hx hb d_b_judgementByReadings_22 (by decide) ?_
      exact hw_iret hx hb hr hlk (vp_nar_int _) hW hS (by omega) (by omega) d_b_judgementByReadings_23 hF
  · replace hF := (if_pos h1).symm.trans hF
    refine lv_iconst (v := 1) hx hb d_b_judgementByReadings_10 (by decide) ?_
    exact hw_iret hx hb hr hlk (vp_nar_int _) hW hS (by omega) (by omega) d_b_judgementByReadings_11 hF
set_option maxRecDepth 100000 in
set_option maxHeartbeats 4000000 in
theorem c_b_acceptedFor_ok (l : Launch) (hl0 : l.stackTraces = false) {L : Nat → Nat → Nat} {Ar : Nat → ClassId} {D : va_G} {b0 : Nat} (hLi : f_L L b0) (a1 : Int32)  (z : fST) (r : Int32) (z' : fST) (hF : F_b_acceptedFor a1 z = some (r, z')) : f_C l y_b_acceptedFor wt 1 0 L Ar D b0 [.ref (L 0 0), .int a1] z (.inl (some (.int r))) z' := by
  refine f_ofW (cc := c_b_acceptedFor) (maxL := 5) (ret := (some FieldType.int)) (by decide) w_b_acceptedFor (Nat.le_of_ble_eq_true rfl) ?_
  intro p e s m args below meth c R hRf hRl hRc hRs hx hb hr hlk hml hno hts hown hK hZ hsz
  have B52 : ∀ (k4 : Int32 × Int32 × Int32 × fST → Option (Int32 × fST)) (K4 : ∀ (x1 : Int32) (x2 : Int32) (x3 : Int32) (z : fST), k4 (x1, x2, x3, z) = some (r, z') →  f_B p l e R s m args below meth c L Ar D b0 5 0 (f_E below args s L Ar D b0 0 (.inl (some (.int r))) z') 0 4 [(0, .ref (L 0 0)), (1, .int x1), (2, .int x2), (3, .int x3)] [] z) (x1 : Int32) (x2 : Int32) (x3 : Int32) (z : fST), b_b_acceptedFor_52 k4 x1 x2 x3 z = some (r, z') →  f_B p l e R s m args below meth c L Ar D b0 5 0 (f_E below args s L Ar D b0 0 (.inl (some (.int r))) z') 0 52 [(0, .ref (L 0 0)), (1, .int x1), (2, .int x2), (3, .int x3)] [] z := by
    intro k4 K4 x1 x2 x3 z hF  H locs ls cells slots hW hS hl hc hs
    unfold b_b_acceptedFor_52 at hF
    refine lv_iinc (k := 3) (x := x3) (v := x3 + 1) (lv' := [(3, .int (x3 + 1)), (0, .ref (L 0 0)), (1, .int x1), (2, .int x2)]) hx hb d_b_acceptedFor_52 hl rfl rfl (by decide) rfl (fun ls hl => ?_)
    refine lv_goto (tgt := 4) hx hb d_b_acceptedFor_55 (by decide) ?_
    exact K4 x1 x2 (x3 + 1) z hF _ _ _ _ _ hW hS (lv_sub hl [1, 2, 3, 0] rfl) (by omega) (by omega)
  have B4 : ∀  (n : Nat) (x1 : Int32) (x2 : Int32) (x3 : Int32) (z : fST), f_it (b_b_acceptedFor_4 ) n (x1, x2, x3, z) = some (r, z') →  f_B p l e R s m args below meth c L Ar D b0 5 0 (f_E below args s L Ar D b0 0 (.inl (some (.int r))) z') 0 4 [(0, .ref (L 0 0)), (1, .int x1), (2, .int x2), (3, .int x3)] [] z := by
    intro  n
    induction n with
    | zero => intro x1 x2 x3 z hF; cases hF
    | succ n ih =>
    intro x1 x2 x3 z hF  H locs ls cells slots hW hS hl hc hs
    replace hF := f_it_s hF
    have K4 : ∀ (x1 : Int32) (x2 : Int32) (x3 : Int32) (z : fST), f_it (b_b_acceptedFor_4 ) n (x1, x2, x3, z) = some (r, z') →  f_B p l e R s m args below meth c L Ar D b0 5 0 (f_E below args s L Ar D b0 0 (.inl (some (.int r))) z') 0 4 [(0, .ref (L 0 0)), (1, .int x1), (2, .int x2), (3, .int x3)] [] z := fun x1 x2 x3 z hF => ih x1 x2 x3 z hF
    generalize f_it (b_b_acceptedFor_4 ) n = k4 at hF K4
    unfold b_b_acceptedFor_4 at hF
    dsimp only at hF
    refine lv_iload_n hx hb d_b_acceptedFor_4 rfl (lv_at hl 3 rfl) ?_
    refine lv_aload_n hx hb d_b_acceptedFor_5 rfl (lv_at hl 0 rfl) ?_
    refine hw_get (k := 0) (i := 0) (n := 1) (j := 1) (v := .ref (L 11 0)) hx hb hts hown hK hW fl_b_19 rfl (by omega) rfl d_b_acceptedFor_6 ?_
    refine hw_get (k := 11) (i := 0) (n := 1) (j := 1) (v := .int (f_gI z 11 0 1)) hx hb hts hown hK hW fl_b_127 rfl (by omega) rfl d_b_acceptedFor_9 ?_
    refine lv_icmp_ge (tgt := 58) hx hb d_b_acceptedFor_12 (by decide) (fun h1 => ?_) (fun h1 => ?_)
    · replace hF := (if_pos h1).symm.trans hF
      refine lv_iload_n hx hb d_b_acceptedFor_58 rfl (lv_at hl 2 rfl) ?_
      exact hw_iret hx hb hr hlk (vp_nar_int _) hW hS (by omega) (by omega) d_b_acceptedFor_59 hF
    · replace hF := (if_neg h1).symm.trans hF
      refine lv_aload_n hx hb d_b_acceptedFor_15 rfl (lv_at hl 0 rfl) ?_
      refine hw_get (k := 0) (i := 0) (n := 1) (j := 1) (v := .ref (L 11 0)) hx hb hts hown hK hW fl_b_19 rfl (by omega) rfl d_b_acceptedFor_16 ?_
      refine hw_get (k := 11) (i := 0) (n := 1) (j := 0) (v := .ref (L 12 0)) hx hb hts hown hK hW fl_b_232 rfl (by omega) rfl d_b_acceptedFor_19 ?_
      refine lv_iload_n hx hb d_b_acceptedFor_22 rfl (lv_at hl 3 rfl) ?_
      obtain ⟨g2, hF⟩ := f_gd_some hF
      obtain ⟨g3, hF⟩ := f_gd_some hF
      have g3 := of_decide_eq_true g3
      refine hw_rald hx hb hK hW g2 d_b_acceptedFor_23 ?_
      refine hw_get (k := 13) (i := f_gR z (f_ix x3)) (n := 16) (j := 7) (v := .int (f_gI z 13 (f_gR z (f_ix x3)) 7)) hx hb hts hown hK hW fl_b_225 rfl (by omega) rfl d_b_acceptedFor_24 ?_
      refine lv_istore (lv' := [(4, .int (f_gI z 13 (f_gR z (f_ix x3)) 7)), (0, .ref (L 0 0)), (1, .int x1), (2, .int x2), (3, .int x3)]) hx hb d_b_acceptedFor_27 hl (by decide) rfl (fun ls hl => ?_)
      refine lv_iload hx hb d_b_acceptedFor_29 (lv_at hl 0 rfl) ?_
      refine lv_iconst (v := (-1)) hx hb d_b_acceptedFor_31 (by decide) ?_
      refine lv_icmp_eq (tgt := 52) hx hb d_b_acceptedFor_32 (by decide) (fun h4 => ?_) (fun h4 => ?_)
      · replace hF := (if_pos h4).symm.trans hF
        exact B52 k4 K4 x1 x2 x3 z hF _ _ _ _ _ hW hS (lv_sub hl [1, 2, 3, 4] rfl) (by omega) (by omega)
      · replace hF := (if_neg h4).symm.trans hF
        refine lv_aload_n hx hb d_b_acceptedFor_35 rfl (lv_at hl 1 rfl) ?_
        refine hw_get (k := 0) (i := 0) (n := 1) (j := 0) (v := .ref (L 1 0)) hx hb hts hown hK hW fl_b_12 rfl (by omega) rfl d_b_acceptedFor_36 ?_
        refine hw_get (k := 1) (i := 0) (n := 1) (j := 2) (v := .ref (L 4 0)) hx hb hts hown hK hW fl_b_295 rfl (by omega) rfl d_b_acceptedFor_39 ?_
        refine lv_iload hx hb d_b_acceptedFor_42 (lv_at hl 0 rfl) ?_
        obtain ⟨g5, hF⟩ := f_gd_some hF
        refine hw_iald (k := 4) (i := 0) (n := 1) hx hb hK hW (by decide) rfl (by omega) rfl g5 d_b_acceptedFor_44 ?_
        refine lv_iload_n hx hb d_b_acceptedFor_45 rfl (lv_at hl 2 rfl) ?_
        refine lv_icmp_ne (tgt := 52) hx hb d_b_acceptedFor_46 (by decide) (fun h6 => ?_) (fun h6 => ?_)
        · replace hF := (if_neg h6).symm.trans hF
          exact B52 k4 K4 x1 x2 x3 z hF _ _ _ _ _ hW hS (lv_sub hl [1, 2, 3, 4] rfl) (by omega) (by omega)
        · replace hF := (if_pos h6).symm.trans hF
          refine lv_iinc (k := 3) (x := x2) (v := x2 + 1) (lv' := [(2, .int (x2 + 1)), (4, .int (f_gI z 13 (f_gR z (f_ix x3)) 7)), (0, .ref (L 0 0)), (1, .int x1), (3, .int x3)]) hx hb d_b_acceptedFor_49 hl rfl rfl (by decide) rfl (fun ls hl => ?_)
          exact B52 k4 K4 x1 (x2 + 1) x3 z hF _ _ _ _ _ hW hS (lv_sub hl [2, 3, 0, 4] rfl) (by omega) (by omega)
  intro H locs ls cells slots hW hS hl hc hs
  have hl : lv_has ls 5 [(0, .ref (L 0 0)), (1, .int a1)] := hl
  unfold F_b_acceptedFor at hF
  refine lv_iconst (v := 0) hx hb d_b_acceptedFor_0 (by decide) ?_
  refine lv_istore_n (lv' := [(2, .int 0), (0, .ref (L 0 0)), (1, .int a1)]) hx hb d_b_acceptedFor_1 rfl hl (by decide) rfl (fun ls hl => ?_)
  refine lv_iconst (v := 0) hx hb d_b_acceptedFor_2 (by decide) ?_
  refine lv_istore_n (lv' := [(3, .int 0), (2, .int 0), (0, .ref (L 0 0)), (1, .int a1)]) hx hb d_b_acceptedFor_3 rfl hl (by decide) rfl (fun ls hl => ?_)
  exact B4 2000 a1 0 0 z hF _ _ _ _ _ hW hS (lv_sub hl [2, 3, 1, 0] rfl) (by omega) (by omega)
