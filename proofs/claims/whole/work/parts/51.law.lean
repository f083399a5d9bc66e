/-! contracts of the law's small methods -/
set_option maxRecDepth 100000 in
set_option maxHeartbeats 4000000 in
theorem c_l_contour_ok (l : Launch) (hl0 : l.stackTraces = false) {L : Nat → Nat → Nat} {Ar : Nat → ClassId} {D : va_G} {b0 : Nat} (hLi : f_L L b0) (a1 : Int32) (a2 : Int32) (a3 : Int32) (a4 : Int32)  (z : fST) (r : Int32) (z' : fST) (hF : F_l_contour a1 a2 a3 a4 z = some (r, z')) : f_C l y_l_contour wt 9 3 L Ar D b0 [.ref (L 0 0), .int a1, .int a2, .int a3, .int a4] z (.inl (some (.int r))) z' := by
  refine f_ofWH (cc := c_l_contour) (maxL := 6) (ret := (some FieldType.int)) (by decide) w_l_contour (Nat.le_of_ble_eq_true rfl) ?_
  intro p e s m args below meth c R hRf hRl hRc hRs hx hb hr hlk hml hte hts hown hK hZ hsz
  intro H locs ls cells slots hW hS hl hc hs
  have hl : lv_has ls 6 [(0, .ref (L 0 0)), (1, .int a1), (2, .int a2), (3, .int a3), (4, .int a4)] := hl
  unfold F_l_contour at hF
  refine lv_aload_n hx hb d_l_contour_0 rfl (lv_at hl 0 rfl) ?_
  refine lv_iload_n hx hb d_l_contour_1 rfl (lv_at hl 1 rfl) ?_
  refine lv_iload_n hx hb d_l_contour_2 rfl (lv_at hl 2 rfl) ?_
  refine lv_iload_n hx hb d_l_contour_3 rfl (lv_at hl 3 rfl) ?_
  refine lv_iload hx hb d_l_contour_4 (lv_at hl 4 rfl) ?_
  rcases f_bx_some hF with ⟨v1, z1, hc1, hF⟩ | ⟨v1, z1, hc1, hF⟩
  · skip
    refine hw_VR (k := 0) (i := 0) (nk := 1) (As := [.int a1, .int a2, .int a3, .int a4]) (rest := []) hx hb hml hown hts (c_b_contour_ok l hl0 hLi a1 a2 a3 a4  _ _ _ hc1) st_l_7 (by decide) rfl (by omega) rfl rfl hK hZ hsz hS hW rfl hl.1 (Nat.le_of_ble_eq_true rfl) d_l_contour_6 (by omega) (by omega) (by omega) (by omega) (fun H locs hW hS => ?_)
    refine lv_goto (tgt := 20) hx hb d_l_contour_9 (by decide) ?_
    refine lv_iconst (v := 0) hx hb d_l_contour_20 (by decide) ?_
    exact hw_iret hx hb hr hlk (vp_nar_int _) hW hS (by omega) (by omega) d_l_contour_21 hF
  · skip
    by_cases e1_0 : v1 = 1
    · replace hF := (if_pos e1_0).symm.trans hF
      subst e1_0
      refine hw_VX (k := 0) (i := 0) (nk := 1) (As := [.int a1, .int a2, .int a3, .int a4]) (rest := []) hx hb hml hown hts (c_b_contour_ok l hl0 hLi a1 a2 a3 a4  _ _ _ hc1) st_l_7 (by decide) rfl (by omega) rfl rfl hK hZ hsz hS hW rfl hl.1 (Nat.le_of_ble_eq_true rfl) d_l_contour_6 (by omega) (by omega) (by omega) (by omega) (fun q1 ce H locs hW hS hq hv hcl => f_catch1 (E := "java/lang/IllegalStateException") hown hte (by decide) (by decide) (hts _ (wt_in (List.mem_of_getElem? (i := 310) (by decide +kernel)) rfl)) (hZ.2.1 _ (List.mem_of_getElem? (i := 322) (by decide +kernel)) rfl) hq hv hcl ?_)
      refine lv_astore (lv' := [(5, .ref q1), (0, .ref (L 0 0)), (1, .int a1), (2, .int a2), (3, .int a3), (4, .int a4)]) hx hb d_l_contour_12 hl (by decide) rfl (fun ls hl => ?_)
      refine lv_iconst (v := 1) hx hb d_l_contour_14 (by decide) ?_
      exact hw_iret hx hb hr hlk (vp_nar_int _) hW hS (by omega) (by omega) d_l_contour_15 hF
    replace hF := (if_neg e1_0).symm.trans hF
    by_cases e1_1 : v1 = 2
    · replace hF := (if_pos e1_1).symm.trans hF
      subst e1_1
      refine hw_VX (k := 0) (i := 0) (nk := 1) (As := [.int a1, .int a2, .int a3, .int a4]) (rest := []) hx hb hml hown hts (c_b_contour_ok l hl0 hLi a1 a2 a3 a4  _ _ _ hc1) st_l_7 (by decide) rfl (by omega) rfl rfl hK hZ hsz hS hW rfl hl.1 (Nat.le_of_ble_eq_true rfl) d_l_contour_6 (by omega) (by omega) (by omega) (by omega) (fun q1 ce H locs hW hS hq hv hcl => f_catch2 (E := "java/lang/IllegalArgumentException") (E1 := "java/lang/IllegalStateException") hown hte (by decide) (by decide) (by decide) (by decide) (hts _ (wt_in (List.mem_of_getElem? (i := 310) (by decide +kernel)) rfl)) (hts _ (wt_in (List.mem_of_getElem? (i := 311) (by decide +kernel)) rfl)) hZ.2.2 (hZ.2.1 _ (List.mem_of_getElem? (i := 387) (by decide +kernel)) rfl) hq hv hcl ?_)
      refine lv_astore (lv' := [(5, .ref q1), (0, .ref (L 0 0)), (1, .int a1), (2, .int a2), (3, .int a3), (4, .int a4)]) hx hb d_l_contour_16 hl (by decide) rfl (fun ls hl => ?_)
      refine lv_iconst (v := 2) hx hb d_l_contour_18 (by decide) ?_
      exact hw_iret hx hb hr hlk (vp_nar_int _) hW hS (by omega) (by omega) d_l_contour_19 hF
    replace hF := (if_neg e1_1).symm.trans hF
    cases hF
set_option maxRecDepth 100000 in
set_option maxHeartbeats 4000000 in
theorem c_l_kind_ok (l : Launch) (hl0 : l.stackTraces = false) {L : Nat → Nat → Nat} {Ar : Nat → ClassId} {D : va_G} {b0 : Nat} (hLi : f_L L b0) (a1 : Int32) (a2 : Int32) (a3 : Int32) (a4 : Int32) (a5 : Int32) (a6 : Int32) (a7 : Int32)  (z : fST) (r : Int32) (z' : fST) (hF : F_l_kind a1 a2 a3 a4 a5 a6 a7 z = some (r, z')) : f_C l y_l_kind wt 9 9 L Ar D b0 [.ref (L 0 0), .int a1, .int a2, .int a3, .int a4, .int a5, .int a6, .int a7, .ref (L 50 0)] z (.inl (some (.int r))) z' := by
  refine f_ofWH (cc := c_l_kind) (maxL := 10) (ret := (some FieldType.int)) (by decide) w_l_kind (Nat.le_of_ble_eq_true rfl) ?_
  intro p e s m args below meth c R hRf hRl hRc hRs hx hb hr hlk hml hte hts hown hK hZ hsz
  intro H locs ls cells slots hW hS hl hc hs
  have hl : lv_has ls 10 [(0, .ref (L 0 0)), (1, .int a1), (2, .int a2), (3, .int a3), (4, .int a4), (5, .int a5), (6, .int a6), (7, .int a7), (8, .ref (L 50 0))] := hl
  unfold F_l_kind at hF
  refine lv_aload hx hb d_l_kind_0 (lv_at hl 8 rfl) ?_
  refine lv_iconst (v := 0) hx hb d_l_kind_2 (by decide) ?_
  refine lv_aload_n hx hb d_l_kind_3 rfl (lv_at hl 0 rfl) ?_
  refine lv_iload_n hx hb d_l_kind_4 rfl (lv_at hl 1 rfl) ?_
  refine lv_iload_n hx hb d_l_kind_5 rfl (lv_at hl 2 rfl) ?_
  refine lv_iload_n hx hb d_l_kind_6 rfl (lv_at hl 3 rfl) ?_
  refine lv_iload hx hb d_l_kind_7 (lv_at hl 4 rfl) ?_
  refine lv_iload hx hb d_l_kind_9 (lv_at hl 5 rfl) ?_
  refine lv_iload hx hb d_l_kind_11 (lv_at hl 6 rfl) ?_
  refine lv_iload hx hb d_l_kind_13 (lv_at hl 7 rfl) ?_
  rcases f_bx_some hF with ⟨v1, z1, hc1, hF⟩ | ⟨v1, z1, hc1, hF⟩
  · skip
    refine hw_VR (k := 0) (i := 0) (nk := 1) (As := [.int a1, .int a2, .int a3, .int a4, .int a5, .int a6, .int a7]) (rest := [.int 0, .ref (L 50 0)]) hx hb hml hown hts (c_b_kind_ok l hl0 hLi a1 a2 a3 a4 a5 a6 a7  _ _ _ hc1) st_l_17 (by decide) rfl (by omega) rfl rfl hK hZ hsz hS hW rfl hl.1 (Nat.le_of_ble_eq_true rfl) d_l_kind_15 (by omega) (by omega) (by omega) (by omega) (fun H locs hW hS => ?_)
    refine lv_i2l hx hb d_l_kind_18 rfl ?_
    refine hw_last hx hb hK hLi hW hS d_l_kind_19 (fun H locs hW hS => ?_)
    refine lv_goto (tgt := 31) hx hb d_l_kind_20 (by decide) ?_
    refine lv_iconst (v := 0) hx hb d_l_kind_31 (by decide) ?_
    exact hw_iret hx hb hr hlk (vp_nar_int _) hW hS (by omega) (by omega) d_l_kind_32 hF
  · skip
    by_cases e1_0 : v1 = 1
    · replace hF := (if_pos e1_0).symm.trans hF
      subst e1_0
      refine hw_VX (k := 0) (i := 0) (nk := 1) (As := [.int a1, .int a2, .int a3, .int a4, .int a5, .int a6, .int a7]) (rest := [.int 0, .ref (L 50 0)]) hx hb hml hown hts (c_b_kind_ok l hl0 hLi a1 a2 a3 a4 a5 a6 a7  _ _ _ hc1) st_l_17 (by decide) rfl (by omega) rfl rfl hK hZ hsz hS hW rfl hl.1 (Nat.le_of_ble_eq_true rfl) d_l_kind_15 (by omega) (by omega) (by omega) (by omega) (fun q1 ce H locs hW hS hq hv hcl => f_catch1 (E := "java/lang/IllegalStateException") hown hte (by decide) (by decide) (hts _ (wt_in (List.mem_of_getElem? (i := 310) (by decide +kernel)) rfl)) (hZ.2.1 _ (List.mem_of_getElem? (i := 322) (by decide +kernel)) rfl) hq hv hcl ?_)
      refine lv_astore (lv' := [(9, .ref q1), (0, .ref (L 0 0)), (1, .int a1), (2, .int a2), (3, .int a3), (4, .int a4), (5, .int a5), (6, .int a6), (7, .int a7), (8, .ref (L 50 0))]) hx hb d_l_kind_23 hl (by decide) rfl (fun ls hl => ?_)
      refine lv_iconst (v := 1) hx hb d_l_kind_25 (by decide) ?_
      exact hw_iret hx hb hr hlk (vp_nar_int _) hW hS (by omega) (by omega) d_l_kind_26 hF
    replace hF := (if_neg e1_0).symm.trans hF
    by_cases e1_1 : v1 = 2
    · replace hF := (if_pos e1_1).symm.trans hF
      subst e1_1
      refine hw_VX (k := 0) (i := 0) (nk := 1) (As := [.int a1, .int a2, .int a3, .int a4, .int a5, .int a6, .int a7]) (rest := [.int 0, .ref (L 50 0)]) hx hb hml hown hts (c_b_kind_ok l hl0 hLi a1 a2 a3 a4 a5 a6 a7  _ _ _ hc1) st_l_17 (by decide) rfl (by omega) rfl rfl hK hZ hsz hS hW rfl hl.1 (Nat.le_of_ble_eq_true rfl) d_l_kind_15 (by omega) (by omega) (by omega) (by omega) (fun q1 ce H locs hW hS hq hv hcl => f_catch2 (E := "java/lang/IllegalArgumentException") (E1 := "java/lang/IllegalStateException") hown hte (by decide) (by decide) (by decide) (by decide) (hts _ (wt_in (List.mem_of_getElem? (i := 310) (by decide +kernel)) rfl)) (hts _ (wt_in (List.mem_of_getElem? (i := 311) (by decide +kernel)) rfl)) hZ.2.2 (hZ.2.1 _ (List.mem_of_getElem? (i := 387) (by decide +kernel)) rfl) hq hv hcl ?_)
      refine lv_astore (lv' := [(9, .ref q1), (0, .ref (L 0 0)), (1, .int a1), (2, .int a2), (3, .int a3), (4, .int a4), (5, .int a5), (6, .int a6), (7, .int a7), (8, .ref (L 50 0))]) hx hb d_l_kind_27 hl (by decide) rfl (fun ls hl => ?_)
      refine lv_iconst (v := 2) hx hb d_l_kind_29 (by decide) ?_
      exact hw_iret hx hb hr hlk (vp_nar_int _) hW hS (by omega) (by omega) d_l_kind_30 hF
    replace hF := (if_neg e1_1).symm.trans hF
    cases hF
set_option maxRecDepth 100000 in
set_option maxHeartbeats 4000000 in
theorem c_l_enter_ok (l : Launch) (hl0 : l.stackTraces = false) {L : Nat → Nat → Nat} {Ar : Nat → ClassId} {D : va_G} {b0 : Nat} (hLi : f_L L b0) (a1 : Int32)  (z : fST) (r : Int32) (z' : fST) (hF : F_l_enter a1 z = some (r, z')) : f_C l y_l_enter wt 9 2 L Ar D b0 [.ref (L 0 0), .int a1, .ref (L 50 0)] z (.inl (some (.int r))) z' := by
  refine f_ofWH (cc := c_l_enter) (maxL := 4) (ret := (some FieldType.int)) (by decide) w_l_enter (Nat.le_of_ble_eq_true rfl) ?_
  intro p e s m args below meth c R hRf hRl hRc hRs hx hb hr hlk hml hte hts hown hK hZ hsz
  intro H locs ls cells slots hW hS hl hc hs
  have hl : lv_has ls 4 [(0, .ref (L 0 0)), (1, .int a1), (2, .ref (L 50 0))] := hl
  unfold F_l_enter at hF
  refine lv_aload_n hx hb d_l_enter_0 rfl (lv_at hl 2 rfl) ?_
  refine lv_iconst (v := 0) hx hb d_l_enter_1 (by decide) ?_
  refine lv_aload_n hx hb d_l_enter_2 rfl (lv_at hl 0 rfl) ?_
  refine lv_iload_n hx hb d_l_enter_3 rfl (lv_at hl 1 rfl) ?_
  rcases f_bx_some hF with ⟨v1, z1, hc1, hF⟩ | ⟨v1, z1, hc1, hF⟩
  · skip
    refine hw_VR (k := 0) (i := 0) (nk := 1) (As := [.int a1]) (rest := [.int 0, .ref (L 50 0)]) hx hb hml hown hts (c_b_enter_ok l hl0 hLi a1  _ _ _ hc1) st_l_21 (by decide) rfl (by omega) rfl rfl hK hZ hsz hS hW rfl hl.1 (Nat.le_of_ble_eq_true rfl) d_l_enter_4 (by omega) (by omega) (by omega) (by omega) (fun H locs hW hS => ?_)
    refine lv_i2l hx hb d_l_enter_7 rfl ?_
    refine hw_last hx hb hK hLi hW hS d_l_enter_8 (fun H locs hW hS => ?_)
    refine lv_goto (tgt := 18) hx hb d_l_enter_9 (by decide) ?_
    refine lv_iconst (v := 0) hx hb d_l_enter_18 (by decide) ?_
    exact hw_iret hx hb hr hlk (vp_nar_int _) hW hS (by omega) (by omega) d_l_enter_19 hF
  · skip
    by_cases e1_0 : v1 = 1
    · replace hF := (if_pos e1_0).symm.trans hF
      subst e1_0
      refine hw_VX (k := 0) (i := 0) (nk := 1) (As := [.int a1]) (rest := [.int 0, .ref (L 50 0)]) hx hb hml hown hts (c_b_enter_ok l hl0 hLi a1  _ _ _ hc1) st_l_21 (by decide) rfl (by omega) rfl rfl hK hZ hsz hS hW rfl hl.1 (Nat.le_of_ble_eq_true rfl) d_l_enter_4 (by omega) (by omega) (by omega) (by omega) (fun q1 ce H locs hW hS hq hv hcl => f_catch1 (E := "java/lang/IllegalStateException") hown hte (by decide) (by decide) (hts _ (wt_in (List.mem_of_getElem? (i := 310) (by decide +kernel)) rfl)) (hZ.2.1 _ (List.mem_of_getElem? (i := 322) (by decide +kernel)) rfl) hq hv hcl ?_)
      refine lv_astore_n (lv' := [(3, .ref q1), (0, .ref (L 0 0)), (1, .int a1), (2, .ref (L 50 0))]) hx hb d_l_enter_12 rfl hl (by decide) rfl (fun ls hl => ?_)
      refine lv_iconst (v := 1) hx hb d_l_enter_13 (by decide) ?_
      exact hw_iret hx hb hr hlk (vp_nar_int _) hW hS (by omega) (by omega) d_l_enter_14 hF
    replace hF := (if_neg e1_0).symm.trans hF
    by_cases e1_1 : v1 = 2
    · replace hF := (if_pos e1_1).symm.trans hF
      subst e1_1
      refine hw_VX (k := 0) (i := 0) (nk := 1) (As := [.int a1]) (rest := [.int 0, .ref (L 50 0)]) hx hb hml hown hts (c_b_enter_ok l hl0 hLi a1  _ _ _ hc1) st_l_21 (by decide) rfl (by omega) rfl rfl hK hZ hsz hS hW rfl hl.1 (Nat.le_of_ble_eq_true rfl) d_l_enter_4 (by omega) (by omega) (by omega) (by omega) (fun q1 ce H locs hW hS hq hv hcl => f_catch2 (E := "java/lang/IllegalArgumentException") (E1 := "java/lang/IllegalStateException") hown hte (by decide) (by decide) (by decide) (by decide) (hts _ (wt_in (List.mem_of_getElem? (i := 310) (by decide +kernel)) rfl)) (hts _ (wt_in (List.mem_of_getElem? (i := 311) (by decide +kernel)) rfl)) hZ.2.2 (hZ.2.1 _ (List.mem_of_getElem? (i := 387) (by decide +kernel)) rfl) hq hv hcl ?_)
      refine lv_astore_n (lv' := [(3, .ref q1), (0, .ref (L 0 0)), (1, .int a1), (2, .ref (L 50 0))]) hx hb d_l_enter_15 rfl hl (by decide) rfl (fun ls hl => ?_)
      refine lv_iconst (v := 2) hx hb d_l_enter_16 (by decide) ?_
      exact hw_iret hx hb hr hlk (vp_nar_int _) hW hS (by omega) (by omega) d_l_enter_17 hF
    replace hF := (if_neg e1_1).symm.trans hF
    cases hF
set_option maxRecDepth 100000 in
set_option maxHeartbeats 4000000 in
theorem c_l_code_ok (l : Launch) (hl0 : l.stackTraces = false) {L : Nat → Nat → Nat} {Ar : Nat → ClassId} {D : va_G} {b0 : Nat} (hLi : f_L L b0) (a1 : Int32)  (z : fST) (r : Int32) (z' : fST) (hF : F_l_code a1 z = some (r, z')) : f_C l y_l_code wt 9 2 L Ar D b0 [.ref (L 0 0), .int a1, .ref (L 50 0)] z (.inl (some (.int r))) z' := by
  refine f_ofWH (cc := c_l_code) (maxL := 4) (ret := (some FieldType.int)) (by decide) w_l_code (Nat.le_of_ble_eq_true rfl) ?_
  intro p e s m args below meth c R hRf hRl hRc hRs hx hb hr hlk hml hte hts hown hK hZ hsz
  have B15 : ∀  (y2 : Int64) (z : fST), b_l_code_15  y2 z = some (r, z') →  f_B p l e R s m args below meth c L Ar D b0 4 2 (f_E below args s L Ar D b0 2 (.inl (some (.int r))) z') 0 15 [] [.long y2, .int 0, .ref (L 50 0)] z := by
    intro  y2 z hF  H locs ls cells slots hW hS hl hc hs
    unfold b_l_code_15 at hF
    refine hw_last hx hb hK hLi hW hS d_l_code_15 (fun H locs hW hS => ?_)
    refine lv_goto (tgt := 25) hx hb d_l_code_16 (by decide) ?_
    refine lv_iconst (v := 0) hx hb d_l_code_25 (by decide) ?_
    exact hw_iret hx hb hr hlk (vp_nar_int _) hW hS (by omega) (by omega) d_l_code_26 hF
  intro H locs ls cells slots hW hS hl hc hs
  have hl : lv_has ls 4 [(0, .ref (L 0 0)), (1, .int a1), (2, .ref (L 50 0))] := hl
  unfold F_l_code at hF
  refine lv_aload_n hx hb d_l_code_0 rfl (lv_at hl 2 rfl) ?_
  refine lv_iconst (v := 0) hx hb d_l_code_1 (by decide) ?_
  refine lv_aload_n hx hb d_l_code_2 rfl (lv_at hl 0 rfl) ?_
  refine lv_iload_n hx hb d_l_code_3 rfl (lv_at hl 1 rfl) ?_
  rcases f_bx_some hF with ⟨v1, z1, hc1, hF⟩ | ⟨v1, z1, hc1, hF⟩
  · skip
    refine hw_VR (k := 0) (i := 0) (nk := 1) (As := [.int a1]) (rest := [.int 0, .ref (L 50 0)]) hx hb hml hown hts (c_b_code_ok l hl0 hLi a1  _ _ _ hc1) st_l_25 (by decide) rfl (by omega) rfl rfl hK hZ hsz hS hW rfl hl.1 (Nat.le_of_ble_eq_true rfl) d_l_code_4 (by omega) (by omega) (by omega) (by omega) (fun H locs hW hS => ?_)
    refine lv_if_eq (tgt := 14) hx hb d_l_code_7 (by decide) (fun h2 => ?_) (fun h2 => ?_)
    · replace hF := (if_pos h2).symm.trans hF
      refine lv_lconst (v := 0) hx hb d_l_code_14 (by decide) ?_
      exact B15 0 z1 hF _ _ _ _ _ hW hS (lv_sub hl [] rfl) (by omega) (by omega)
    · replace hF := (if_neg h2).symm.trans hF
      refine lv_lconst (v := 1) hx hb d_l_code_10 (by decide) ?_
      refine lv_goto (tgt := 15) hx hb d_l_code_11 (by decide) ?_
      exact B15 1 z1 hF _ _ _ _ _ hW hS (lv_sub hl [] rfl) (by omega) (by omega)
  · skip
    by_cases e1_0 : v1 = 1
    · replace hF := (if_pos e1_0).symm.trans hF
      subst e1_0
      refine hw_VX (k := 0) (i := 0) (nk := 1) (As := [.int a1]) (rest := [.int 0, .ref (L 50 0)]) hx hb hml hown hts (c_b_code_ok l hl0 hLi a1  _ _ _ hc1) st_l_25 (by decide) rfl (by omega) rfl rfl hK hZ hsz hS hW rfl hl.1 (Nat.le_of_ble_eq_true rfl) d_l_code_4 (by omega) (by omega) (by omega) (by omega) (fun q1 ce H locs hW hS hq hv hcl => f_catch1 (E := "java/lang/IllegalStateException") hown hte (by decide) (by decide) (hts _ (wt_in (List.mem_of_getElem? (i := 310) (by decide +kernel)) rfl)) (hZ.2.1 _ (List.mem_of_getElem? (i := 322) (by decide +kernel)) rfl) hq hv hcl ?_)
      refine lv_astore_n (lv' := [(3, .ref q1), (0, .ref (L 0 0)), (1, .int a1), (2, .ref (L 50 0))]) hx hb d_l_code_19 rfl hl (by decide) rfl (fun ls hl => ?_)
      refine lv_iconst (v := 1) hx hb d_l_code_20 (by decide) ?_
      exact hw_iret hx hb hr hlk (vp_nar_int _) hW hS (by omega) (by omega) d_l_code_21 hF
    replace hF := (if_neg e1_0).symm.trans hF
    by_cases e1_1 : v1 = 2
    · replace hF := (if_pos e1_1).symm.trans hF
      subst e1_1
      refine hw_VX (k := 0) (i := 0) (nk := 1) (As := [.int a1]) (rest := [.int 0, .ref (L 50 0)]) hx hb hml hown hts (c_b_code_ok l hl0 hLi a1  _ _ _ hc1) st_l_25 (by decide) rfl (by omega) rfl rfl hK hZ hsz hS hW rfl hl.1 (Nat.le_of_ble_eq_true rfl) d_l_code_4 (by omega) (by omega) (by omega) (by omega) (fun q1 ce H locs hW hS hq hv hcl => f_catch2 (E := "java/lang/IllegalArgumentException") (E1 := "java/lang/IllegalStateException") hown hte (by decide) (by decide) (by decide) (by decide) (hts _ (wt_in (List.mem_of_getElem? (i := 310) (by decide +kernel)) rfl)) (hts _ (wt_in (List.mem_of_getElem? (i := 311) (by decide +kernel)) rfl)) hZ.2.2 (hZ.2.1 _ (List.mem_of_getElem? (i := 387) (by decide +kernel)) rfl) hq hv hcl ?_)
      refine lv_astore_n (lv' := [(3, .ref q1), (0, .ref (L 0 0)), (1, .int a1), (2, .ref (L 50 0))]) hx hb d_l_code_22 rfl hl (by decide) rfl (fun ls hl => ?_)
      refine lv_iconst (v := 2) hx hb d_l_code_23 (by decide) ?_
      exact hw_iret hx hb hr hlk (vp_nar_int _) hW hS (by omega) (by omega) d_l_code_24 hF
    replace hF := (if_neg e1_1).symm.trans hF
    cases hF
set_option maxRecDepth 100000 in
set_option maxHeartbeats 4000000 in
theorem c_l_width_ok (l : Launch) (hl0 : l.stackTraces = false) {L : Nat → Nat → Nat} {Ar : Nat → ClassId} {D : va_G} {b0 : Nat} (hLi : f_L L b0) (a1 : Int32)  (z : fST) (r : Int32) (z' : fST) (hF : F_l_width a1 z = some (r, z')) : f_C l y_l_width wt 9 2 L Ar D b0 [.ref (L 0 0), .int a1, .ref (L 50 0)] z (.inl (some (.int r))) z' := by
  refine f_ofWH (cc := c_l_width) (maxL := 4) (ret := (some FieldType.int)) (by decide) w_l_width (Nat.le_of_ble_eq_true rfl) ?_
  intro p e s m args below meth c R hRf hRl hRc hRs hx hb hr hlk hml hte hts hown hK hZ hsz
  have B15 : ∀  (y2 : Int64) (z : fST), b_l_width_15  y2 z = some (r, z') →  f_B p l e R s m args below meth c L Ar D b0 4 2 (f_E below args s L Ar D b0 2 (.inl (some (.int r))) z') 0 15 [] [.long y2, .int 0, .ref (L 50 0)] z := by
    intro  y2 z hF  H locs ls cells slots hW hS hl hc hs
    unfold b_l_width_15 at hF
    refine hw_last hx hb hK hLi hW hS d_l_width_15 (fun H locs hW hS => ?_)
    refine lv_goto (tgt := 25) hx hb d_l_width_16 (by decide) ?_
    refine lv_iconst (v := 0) hx hb d_l_width_25 (by decide) ?_
    exact hw_iret hx hb hr hlk (vp_nar_int _) hW hS (by omega) (by omega) d_l_width_26 hF
  intro H locs ls cells slots hW hS hl hc hs
  have hl : lv_has ls 4 [(0, .ref (L 0 0)), (1, .int a1), (2, .ref (L 50 0))] := hl
  unfold F_l_width at hF
  refine lv_aload_n hx hb d_l_width_0 rfl (lv_at hl 2 rfl) ?_
  refine lv_iconst (v := 0) hx hb d_l_width_1 (by decide) ?_
  refine lv_aload_n hx hb d_l_width_2 rfl (lv_at hl 0 rfl) ?_
  refine lv_iload_n hx hb d_l_width_3 rfl (lv_at hl 1 rfl) ?_
  rcases f_bx_some hF with ⟨v1, z1, hc1, hF⟩ | ⟨v1, z1, hc1, hF⟩
  · skip
    refine hw_VR (k := 0) (i := 0) (nk := 1) (As := [.int a1]) (rest := [.int 0, .ref (L 50 0)]) hx hb hml hown hts (c_b_width_ok l hl0 hLi a1  _ _ _ hc1) st_l_29 (by decide) rfl (by omega) rfl rfl hK hZ hsz hS hW rfl hl.1 (Nat.le_of_ble_eq_true rfl) d_l_width_4 (by omega) (by omega) (by omega) (by omega) (fun H locs hW hS => ?_)
    refine lv_if_eq (tgt := 14) hx hb d_l_width_7 (by decide) (fun h2 => ?_) (fun h2 => ?_)
    · replace hF := (if_pos h2).symm.trans hF
      refine lv_lconst (v := 0) hx hb d_l_width_14 (by decide) ?_
      exact B15 0 z1 hF _ _ _ _ _ hW hS (lv_sub hl [] rfl) (by omega) (by omega)
    · replace hF := (if_neg h2).symm.trans hF
      refine lv_lconst (v := 1) hx hb d_l_width_10 (by decide) ?_
      refine lv_goto (tgt := 15) hx hb d_l_width_11 (by decide) ?_
      exact B15 1 z1 hF _ _ _ _ _ hW hS (lv_sub hl [] rfl) (by omega) (by omega)
  · skip
    by_cases e1_0 : v1 = 1
    · replace hF := (if_pos e1_0).symm.trans hF
      subst e1_0
      refine hw_VX (k := 0) (i := 0) (nk := 1) (As := [.int a1]) (rest := [.int 0, .ref (L 50 0)]) hx hb hml hown hts (c_b_width_ok l hl0 hLi a1  _ _ _ hc1) st_l_29 (by decide) rfl (by omega) rfl rfl hK hZ hsz hS hW rfl hl.1 (Nat.le_of_ble_eq_true rfl) d_l_width_4 (by omega) (by omega) (by omega) (by omega) (fun q1 ce H locs hW hS hq hv hcl => f_catch1 (E := "java/lang/IllegalStateException") hown hte (by decide) (by decide) (hts _ (wt_in (List.mem_of_getElem? (i := 310) (by decide +kernel)) rfl)) (hZ.2.1 _ (List.mem_of_getElem? (i := 322) (by decide +kernel)) rfl) hq hv hcl ?_)
      refine lv_astore_n (lv' := [(3, .ref q1), (0, .ref (L 0 0)), (1, .int a1), (2, .ref (L 50 0))]) hx hb d_l_width_19 rfl hl (by decide) rfl (fun ls hl => ?_)
      refine lv_iconst (v := 1) hx hb d_l_width_20 (by decide) ?_
      exact hw_iret hx hb hr hlk (vp_nar_int _) hW hS (by omega) (by omega) d_l_width_21 hF
    replace hF := (if_neg e1_0).symm.trans hF
    by_cases e1_1 : v1 = 2
    · replace hF := (if_pos e1_1).symm.trans hF
      subst e1_1
      refine hw_VX (k := 0) (i := 0) (nk := 1) (As := [.int a1]) (rest := [.int 0, .ref (L 50 0)]) hx hb hml hown hts (c_b_width_ok l hl0 hLi a1  _ _ _ hc1) st_l_29 (by decide) rfl (by omega) rfl rfl hK hZ hsz hS hW rfl hl.1 (Nat.le_of_ble_eq_true rfl) d_l_width_4 (by omega) (by omega) (by omega) (by omega) (fun q1 ce H locs hW hS hq hv hcl => f_catch2 (E := "java/lang/IllegalArgumentException") (E1 := "java/lang/IllegalStateException") hown hte (by decide) (by decide) (by decide) (by decide) (hts _ (wt_in (List.mem_of_getElem? (i := 310) (by decide +kernel)) rfl)) (hts _ (wt_in (List.mem_of_getElem? (i := 311) (by decide +kernel)) rfl)) hZ.2.2 (hZ.2.1 _ (List.mem_of_getElem? (i := 387) (by decide +kernel)) rfl) hq hv hcl ?_)
      refine lv_astore_n (lv' := [(3, .ref q1), (0, .ref (L 0 0)), (1, .int a1), (2, .ref (L 50 0))]) hx hb d_l_width_22 rfl hl (by decide) rfl (fun ls hl => ?_)
      refine lv_iconst (v := 2) hx hb d_l_width_23 (by decide) ?_
      exact hw_iret hx hb hr hlk (vp_nar_int _) hW hS (by omega) (by omega) d_l_width_24 hF
    replace hF := (if_neg e1_1).symm.trans hF
    cases hF
set_option maxRecDepth 100000 in
set_option maxHeartbeats 4000000 in
theorem c_l_weigh_ok (l : Launch) (hl0 : l.stackTraces = false) {L : Nat → Nat → Nat} {Ar : Nat → ClassId} {D : va_G} {b0 : Nat} (hLi : f_L L b0) (a1 : Int32)  (z : fST) (r : Int32) (z' : fST) (hF : F_l_weigh a1 z = some (r, z')) : f_C l y_l_weigh wt 9 2 L Ar D b0 [.ref (L 0 0), .int a1, .ref (L 50 0)] z (.inl (some (.int r))) z' := by
  refine f_ofWH (cc := c_l_weigh) (maxL := 4) (ret := (some FieldType.int)) (by decide) w_l_weigh (Nat.le_of_ble_eq_true rfl) ?_
  intro p e s m args below meth c R hRf hRl hRc hRs hx hb hr hlk hml hte hts hown hK hZ hsz
  have B15 : ∀  (y2 : Int64) (z : fST), b_l_weigh_15  y2 z = some (r, z') →  f_B p l e R s m args below meth c L Ar D b0 4 2 (f_E below args s L Ar D b0 2 (.inl (some (.int r))) z') 0 15 [] [.long y2, .int 0, .ref (L 50 0)] z := by
    intro  y2 z hF  H locs ls cells slots hW hS hl hc hs
    unfold b_l_weigh_15 at hF
    refine hw_last hx hb hK hLi hW hS d_l_weigh_15 (fun H locs hW hS => ?_)
    refine lv_goto (tgt := 25) hx hb d_l_weigh_16 (by decide) ?_
    refine lv_iconst (v := 0) hx hb d_l_weigh_25 (by decide) ?_
    exact hw_iret hx hb hr hlk (vp_nar_int _) hW hS (by omega) (by omega) d_l_weigh_26 hF
  intro H locs ls cells slots hW hS hl hc hs
  have hl : lv_has ls 4 [(0, .ref (L 0 0)), (1, .int a1), (2, .ref (L 50 0))] := hl
  unfold F_l_weigh at hF
  refine lv_aload_n hx hb d_l_weigh_0 rfl (lv_at hl 2 rfl) ?_
  refine lv_iconst (v := 0) hx hb d_l_weigh_1 (by decide) ?_
  refine lv_aload_n hx hb d_l_weigh_2 rfl (lv_at hl 0 rfl) ?_
  refine lv_iload_n hx hb d_l_weigh_3 rfl (lv_at hl 1 rfl) ?_
  rcases f_bx_some hF with ⟨v1, z1, hc1, hF⟩ | ⟨v1, z1, hc1, hF⟩
  · skip
    refine hw_VR (k := 0) (i := 0) (nk := 1) (As := [.int a1]) (rest := [.int 0, .ref (L 50 0)]) hx hb hml hown hts (c_b_weigh_ok l hl0 hLi a1  _ _ _ hc1) st_l_32 (by decide) rfl (by omega) rfl rfl hK hZ hsz hS hW rfl hl.1 (Nat.le_of_ble_eq_true rfl) d_l_weigh_4 (by omega) (by omega) (by omega) (by omega) (fun H locs hW hS => ?_)
    refine lv_if_eq (tgt := 14) hx hb d_l_weigh_7 (by decide) (fun h2 => ?_) (fun h2 => ?_)
    · replace hF := (if_pos h2).symm.trans hF
      refine lv_lconst (v := 0) hx hb d_l_weigh_14 (by decide) ?_
      exact B15 0 z1 hF _ _ _ _ _ hW hS (lv_sub hl [] rfl) (by omega) (by omega)
    · replace hF := (if_neg h2).symm.trans hF
      refine lv_lconst (v := 1) hx hb d_l_weigh_10 (by decide) ?_
      refine lv_goto (tgt := 15) hx hb d_l_weigh_11 (by decide) ?_
      exact B15 1 z1 hF _ _ _ _ _ hW hS (lv_sub hl [] rfl) (by omega) (by omega)
  · skip
    by_cases e1_0 : v1 = 1
    · replace hF := (if_pos e1_0).symm.trans hF
      subst e1_0
      refine hw_VX (k := 0) (i := 0) (nk := 1) (As := [.int a1]) (rest := [.int 0, .ref (L 50 0)]) hx hb hml hown hts (c_b_weigh_ok l hl0 hLi a1  _ _ _ hc1) st_l_32 (by decide) rfl (by omega) rfl rfl hK hZ hsz hS hW rfl hl.1 (Nat.le_of_ble_eq_true rfl) d_l_weigh_4 (by omega) (by omega) (by omega) (by omega) (fun q1 ce H locs hW hS hq hv hcl => f_catch1 (E := "java/lang/IllegalStateException") hown hte (by decide) (by decide) (hts _ (wt_in (List.mem_of_getElem? (i := 310) (by decide +kernel)) rfl)) (hZ.2.1 _ (List.mem_of_getElem? (i := 322) (by decide +kernel)) rfl) hq hv hcl ?_)
      refine lv_astore_n (lv' := [(3, .ref q1), (0, .ref (L 0 0)), (1, .int a1), (2, .ref (L 50 0))]) hx hb d_l_weigh_19 rfl hl (by decide) rfl (fun ls hl => ?_)
      refine lv_iconst (v := 1) hx hb d_l_weigh_20 (by decide) ?_
      exact hw_iret hx hb hr hlk (vp_nar_int _) hW hS (by omega) (by omega) d_l_weigh_21 hF
    replace hF := (if_neg e1_0).symm.trans hF
    by_cases e1_1 : v1 = 2
    · replace hF := (if_pos e1_1).symm.trans hF
      subst e1_1
      refine hw_VX (k := 0) (i := 0) (nk := 1) (As := [.int a1]) (rest := [.int 0, .ref (L 50 0)]) hx hb hml hown hts (c_b_weigh_ok l hl0 hLi a1  _ _ _ hc1) st_l_32 (by decide) rfl (by omega) rfl rfl hK hZ hsz hS hW rfl hl.1 (Nat.le_of_ble_eq_true rfl) d_l_weigh_4 (by omega) (by omega) (by omega) (by omega) (fun q1 ce H locs hW hS hq hv hcl => f_catch2 (E := "java/lang/IllegalArgumentException") (E1 := "java/lang/IllegalStateException") hown hte (by decide) (by decide) (by decide) (by decide) (hts _ (wt_in (List.mem_of_getElem? (i := 310) (by decide +kernel)) rfl)) (hts _ (wt_in (List.mem_of_getElem? (i := 311) (by decide +kernel)) rfl)) hZ.2.2 (hZ.2.1 _ (List.mem_of_getElem? (i := 387) (by decide +kernel)) rfl) hq hv hcl ?_)
      refine lv_astore_n (lv' := [(3, .ref q1), (0, .ref (L 0 0)), (1, .int a1), (2, .ref (L 50 0))]) hx hb d_l_weigh_22 rfl hl (by decide) rfl (fun ls hl => ?_)
      refine lv_iconst (v := 2) hx hb d_l_weigh_23 (by decide) ?_
      exact hw_iret hx hb hr hlk (vp_nar_int _) hW hS (by omega) (by omega) d_l_weigh_24 hF
    replace hF := (if_neg e1_1).symm.trans hF
    cases hF
set_option maxRecDepth 100000 in
set_option maxHeartbeats 4000000 in
theorem c_l_forward_ok (l : Launch) (hl0 : l.stackTraces = false) {L : Nat → Nat → Nat} {Ar : Nat → ClassId} {D : va_G} {b0 : Nat} (hLi : f_L L b0) (a1 : Int32)  (z : fST) (r : Int32) (z' : fST) (hF : F_l_forward a1 z = some (r, z')) : f_C l y_l_forward wt 9 2 L Ar D b0 [.ref (L 0 0), .int a1, .ref (L 50 0)] z (.inl (some (.int r))) z' := by
  refine f_ofWH (cc := c_l_forward) (maxL := 4) (ret := (some FieldType.int)) (by decide) w_l_forward (Nat.le_of_ble_eq_true rfl) ?_
  intro p e s m args below meth c R hRf hRl hRc hRs hx hb hr hlk hml hte hts hown hK hZ hsz
  intro H locs ls cells slots hW hS hl hc hs
  have hl : lv_has ls 4 [(0, .ref (L 0 0)), (1, .int a1), (2, .ref (L 50 0))] := hl
  unfold F_l_forward at hF
  refine lv_aload_n hx hb d_l_forward_0 rfl (lv_at hl 2 rfl) ?_
  refine lv_iconst (v := 0) hx hb d_l_forward_1 (by decide) ?_
  refine lv_aload_n hx hb d_l_forward_2 rfl (lv_at hl 0 rfl) ?_
  refine lv_iload_n hx hb d_l_forward_3 rfl (lv_at hl 1 rfl) ?_
  rcases f_bx_some hF with ⟨v1, z1, hc1, hF⟩ | ⟨v1, z1, hc1, hF⟩
  · skip
    refine hw_VR (k := 0) (i := 0) (nk := 1) (As := [.int a1]) (rest := [.int 0, .ref (L 50 0)]) hx hb hml hown hts (c_b_forward_ok l hl0 hLi a1  _ _ _ hc1) st_l_35 (by decide) rfl (by omega) rfl rfl hK hZ hsz hS hW rfl hl.1 (Nat.le_of_ble_eq_true rfl) d_l_forward_4 (by omega) (by omega) (by omega) (by omega) (fun H locs hW hS => ?_)
    refine lv_i2l hx hb d_l_forward_7 rfl ?_
    refine hw_last hx hb hK hLi hW hS d_l_forward_8 (fun H locs hW hS => ?_)
    refine lv_goto (tgt := 18) hx hb d_l_forward_9 (by decide) ?_
    refine lv_iconst (v := 0) hx hb d_l_forward_18 (by decide) ?_
    exact hw_iret hx hb hr hlk (vp_nar_int _) hW hS (by omega) (by omega) d_l_forward_19 hF
  · skip
    by_cases e1_0 : v1 = 1
    · replace hF := (if_pos e1_0).symm.trans hF
      subst e1_0
      refine hw_VX (k := 0) (i := 0) (nk := 1) (As := [.int a1]) (rest := [.int 0, .ref (L 50 0)]) hx hb hml hown hts (c_b_forward_ok l hl0 hLi a1  _ _ _ hc1) st_l_35 (by decide) rfl (by omega) rfl rfl hK hZ hsz hS hW rfl hl.1 (Nat.le_of_ble_eq_true rfl) d_l_forward_4 (by omega) (by omega) (by omega) (by omega) (fun q1 ce H locs hW hS hq hv hcl => f_catch1 (E := "java/lang/IllegalStateException") hown hte (by decide) (by decide) (hts _ (wt_in (List.mem_of_getElem? (i := 310) (by decide +kernel)) rfl)) (hZ.2.1 _ (List.mem_of_getElem? (i := 322) (by decide +kernel)) rfl) hq hv hcl ?_)
      refine lv_astore_n (lv' := [(3, .ref q1), (0, .ref (L 0 0)), (1, .int a1), (2, .ref (L 50 0))]) hx hb d_l_forward_12 rfl hl (by decide) rfl (fun ls hl => ?_)
      refine lv_iconst (v := 1) hx hb d_l_forward_13 (by decide) ?_
      exact hw_iret hx hb hr hlk (vp_nar_int _) hW hS (by omega) (by omega) d_l_forward_14 hF
    replace hF := (if_neg e1_0).symm.trans hF
    by_cases e1_1 : v1 = 2
    · replace hF := (if_pos e1_1).symm.trans hF
      subst e1_1
      refine hw_VX (k := 0) (i := 0) (nk := 1) (As := [.int a1]) (rest := [.int 0, .ref (L 50 0)]) hx hb hml hown hts (c_b_forward_ok l hl0 hLi a1  _ _ _ hc1) st_l_35 (by decide) rfl (by omega) rfl rfl hK hZ hsz hS hW rfl hl.1 (Nat.le_of_ble_eq_true rfl) d_l_forward_4 (by omega) (by omega) (by omega) (by omega) (fun q1 ce H locs hW hS hq hv hcl => f_catch2 (E := "java/lang/IllegalArgumentException") (E1 := "java/lang/IllegalStateException") hown hte (by decide) (by decide) (by decide) (by decide) (hts _ (wt_in (List.mem_of_getElem? (i := 310) (by decide +kernel)) rfl)) (hts _ (wt_in (List.mem_of_getElem? (i := 311) (by decide +kernel)) rfl)) hZ.2.2 (hZ.2.1 _ (List.mem_of_getElem? (i := 387) (by decide +kernel)) rfl) hq hv hcl ?_)
      refine lv_astore_n (lv' := [(3, .ref q1), (0, .ref (L 0 0)), (1, .int a1), (2, .ref (L 50 0))]) hx hb d_l_forward_15 rfl hl (by decide) rfl (fun ls hl => ?_)
      refine lv_iconst (v := 2) hx hb d_l_forward_16 (by decide) ?_
      exact hw_iret hx hb hr hlk (vp_nar_int _) hW hS (by omega) (by omega) d_l_forward_17 hF
    replace hF := (if_neg e1_1).symm.trans hF
    cases hF
set_option maxRecDepth 100000 in
set_option maxHeartbeats 4000000 in
theorem c_l_back_ok (l : Launch) (hl0 : l.stackTraces = false) {L : Nat → Nat → Nat} {Ar : Nat → ClassId} {D : va_G} {b0 : Nat} (hLi : f_L L b0) (a1 : Int32)  (z : fST) (r : Int32) (z' : fST) (hF : F_l_back a1 z = some (r, z')) : f_C l y_l_back wt 9 2 L Ar D b0 [.ref (L 0 0), .int a1, .ref (L 50 0)] z (.inl (some (.int r))) z' := by
  refine f_ofWH (cc := c_l_back) (maxL := 4) (ret := (some FieldType.int)) (by decide) w_l_back (Nat.le_of_ble_eq_true rfl) ?_
  intro p e s m args below meth c R hRf hRl hRc hRs hx hb hr hlk hml hte hts hown hK hZ hsz
  intro H locs ls cells slots hW hS hl hc hs
  have hl : lv_has ls 4 [(0, .ref (L 0 0)), (1, .int a1), (2, .ref (L 50 0))] := hl
  unfold F_l_back at hF
  refine lv_aload_n hx hb d_l_back_0 rfl (lv_at hl 2 rfl) ?_
  refine lv_iconst (v := 0) hx hb d_l_back_1 (by decide) ?_
  refine lv_aload_n hx hb d_l_back_2 rfl (lv_at hl 0 rfl) ?_
  refine lv_iload_n hx hb d_l_back_3 rfl (lv_at hl 1 rfl) ?_
  rcases f_bx_some hF with ⟨v1, z1, hc1, hF⟩ | ⟨v1, z1, hc1, hF⟩
  · skip
    refine hw_VR (k := 0) (i := 0) (nk := 1) (As := [.int a1]) (rest := [.int 0, .ref (L 50 0)]) hx hb hml hown hts (c_b_back_ok l hl0 hLi a1  _ _ _ hc1) st_l_38 (by decide) rfl (by omega) rfl rfl hK hZ hsz hS hW rfl hl.1 (Nat.le_of_ble_eq_true rfl) d_l_back_4 (by omega) (by omega) (by omega) (by omega) (fun H locs hW hS => ?_)
    refine lv_i2l hx hb d_l_back_7 rfl ?_
    refine hw_last hx hb hK hLi hW hS d_l_back_8 (fun H locs hW hS => ?_)
    refine lv_goto (tgt := 18) hx hb d_l_back_9 (by decide) ?_
    refine lv_iconst (v := 0) hx hb d_l_back_18 (by decide) ?_
    exact hw_iret hx hb hr hlk (vp_nar_int _) hW hS (by omega) (by omega) d_l_back_19 hF
  · skip
    by_cases e1_0 : v1 = 1
    · replace hF := (if_pos e1_0).symm.trans hF
      subst e1_0
      refine hw_VX (k := 0) (i := 0) (nk := 1) (As := [.int a1]) (rest := [.int 0, .ref (L 50 0)]) hx hb hml hown hts (c_b_back_ok l hl0 hLi a1  _ _ _ hc1) st_l_38 (by decide) rfl (by omega) rfl rfl hK hZ hsz hS hW rfl hl.1 (Nat.le_of_ble_eq_true rfl) d_l_back_4 (by omega) (by omega) (by omega) (by omega) (fun q1 ce H locs hW hS hq hv hcl => f_catch1 (E := "java/lang/IllegalStateException") hown hte (by decide) (by decide) (hts _ (wt_in (List.mem_of_getElem? (i := 310) (by decide +kernel)) rfl)) (hZ.2.1 _ (List.mem_of_getElem? (i := 322) (by decide +kernel)) rfl) hq hv hcl ?_)
      refine lv_astore_n (lv' := [(3, .ref q1), (0, .ref (L 0 0)), (1, .int a1), (2, .ref (L 50 0))]) hx hb d_l_back_12 rfl hl (by decide) rfl (fun ls hl => ?_)
      refine lv_iconst (v := 1) hx hb d_l_back_13 (by decide) ?_
      exact hw_iret hx hb hr hlk (vp_nar_int _) hW hS (by omega) (by omega) d_l_back_14 hF
    replace hF := (if_neg e1_0).symm.trans hF
    by_cases e1_1 : v1 = 2
    · replace hF := (if_pos e1_1).symm.trans hF
      subst e1_1
      refine hw_VX (k := 0) (i := 0) (nk := 1) (As := [.int a1]) (rest := [.int 0, .ref (L 50 0)]) hx hb hml hown hts (c_b_back_ok l hl0 hLi a1  _ _ _ hc1) st_l_38 (by decide) rfl (by omega) rfl rfl hK hZ hsz hS hW rfl hl.1 (Nat.le_of_ble_eq_true rfl) d_l_back_4 (by omega) (by omega) (by omega) (by omega) (fun q1 ce H locs hW hS hq hv hcl => f_catch2 (E := "java/lang/IllegalArgumentException") (E1 := "java/lang/IllegalStateException") hown hte (by decide) (by decide) (by decide) (by decide) (hts _ (wt_in (List.mem_of_getElem? (i := 310) (by decide +kernel)) rfl)) (hts _ (wt_in (List.mem_of_getElem? (i := 311) (by decide +kernel)) rfl)) hZ.2.2 (hZ.2.1 _ (List.mem_of_getElem? (i := 387) (by decide +kernel)) rfl) hq hv hcl ?_)
      refine lv_astore_n (lv' := [(3, .ref q1), (0, .ref (L 0 0)), (1, .int a1), (2, .ref (L 50 0))]) hx hb d_l_back_15 rfl hl (by decide) rfl (fun ls hl => ?_)
      refine lv_iconst (v := 2) hx hb d_l_back_16 (by decide) ?_
      exact hw_iret hx hb hr hlk (vp_nar_int _) hW hS (by omega) (by omega) d_l_back_17 hF
    replace hF := (if_neg e1_1).symm.trans hF
    cases hF
set_option maxRecDepth 100000 in
set_option maxHeartbeats 4000000 in
theorem c_l_voucher_ok (l : Launch) (hl0 : l.stackTraces = false) {L : Nat → Nat → Nat} {Ar : Nat → ClassId} {D : va_G} {b0 : Nat} (hLi : f_L L b0)   (z : fST) (r : Int32) (z' : fST) (hF : F_l_voucher  z = some (r, z')) : f_C l y_l_voucher wt 9 1 L Ar D b0 [.ref (L 0 0), .ref (L 50 0)] z (.inl (some (.int r))) z' := by
  refine f_ofWH (cc := c_l_voucher) (maxL := 3) (ret := (some FieldType.int)) (by decide) w_l_voucher (Nat.le_of_ble_eq_true rfl) ?_
  intro p e s m args below meth c R hRf hRl hRc hRs hx hb hr hlk hml hte hts hown hK hZ hsz
  intro H locs ls cells slots hW hS hl hc hs
  have hl : lv_has ls 3 [(0, .ref (L 0 0)), (1, .ref (L 50 0))] := hl
  unfold F_l_voucher at hF
  refine lv_aload_n hx hb d_l_voucher_0 rfl (lv_at hl 1 rfl) ?_
  refine lv_iconst (v := 0) hx hb d_l_voucher_1 (by decide) ?_
  refine lv_aload_n hx hb d_l_voucher_2 rfl (lv_at hl 0 rfl) ?_
  rcases f_bx_some hF with ⟨v1, z1, hc1, hF⟩ | ⟨v1, z1, hc1, hF⟩
  · skip
    refine hw_VR (k := 0) (i := 0) (nk := 1) (As := []) (rest := [.int 0, .ref (L 50 0)]) hx hb hml hown hts (c_b_voucher_ok l hl0 hLi   _ _ _ hc1) st_l_41 (by decide) rfl (by omega) rfl rfl hK hZ hsz hS hW rfl hl.1 (Nat.le_of_ble_eq_true rfl) d_l_voucher_3 (by omega) (by omega) (by omega) (by omega) (fun H locs hW hS => ?_)
    refine lv_i2l hx hb d_l_voucher_6 rfl ?_
    refine hw_last hx hb hK hLi hW hS d_l_voucher_7 (fun H locs hW hS => ?_)
    refine lv_goto (tgt := 14) hx hb d_l_voucher_8 (by decide) ?_
    refine lv_iconst (v := 0) hx hb d_l_voucher_14 (by decide) ?_
    exact hw_iret hx hb hr hlk (vp_nar_int _) hW hS (by omega) (by omega) d_l_voucher_15 hF
  · skip
    by_cases e1_0 : v1 = 1
    · replace hF := (if_pos e1_0).symm.trans hF
      subst e1_0
      refine hw_VX (k := 0) (i := 0) (nk := 1) (As := []) (rest := [.int 0, .ref (L 50 0)]) hx hb hml hown hts (c_b_voucher_ok l hl0 hLi   _ _ _ hc1) st_l_41 (by decide) rfl (by omega) rfl rfl hK hZ hsz hS hW rfl hl.1 (Nat.le_of_ble_eq_true rfl) d_l_voucher_3 (by omega) (by omega) (by omega) (by omega) (fun q1 ce H locs hW hS hq hv hcl => f_catch1 (E := "java/lang/IllegalStateException") hown hte (by decide) (by decide) (hts _ (wt_in (List.mem_of_getElem? (i := 310) (by decide +kernel)) rfl)) (hZ.2.1 _ (List.mem_of_getElem? (i := 322) (by decide +kernel)) rfl) hq hv hcl ?_)
      refine lv_astore_n (lv' := [(2, .ref q1), (0, .ref (L 0 0)), (1, .ref (L 50 0))]) hx hb d_l_voucher_11 rfl hl (by decide) rfl (fun ls hl => ?_)
      refine lv_iconst (v := 1) hx hb d_l_voucher_12 (by decide) ?_
      exact hw_iret hx hb hr hlk (vp_nar_int _) hW hS (by omega) (by omega) d_l_voucher_13 hF
    replace hF := (if_neg e1_0).symm.trans hF
    cases hF
set_option maxRecDepth 100000 in
set_option maxHeartbeats 4000000 in
theorem c_l_give_ok (l : Launch) (hl0 : l.stackTraces = false) {L : Nat → Nat → Nat} {Ar : Nat → ClassId} {D : va_G} {b0 : Nat} (hLi : f_L L b0)   (z : fST) (r : Int32) (z' : fST) (hF : F_l_give  z = some (r, z')) : f_C l y_l_give wt 9 1 L Ar D b0 [.ref (L 0 0), .ref (L 50 0)] z (.inl (some (.int r))) z' := by
  refine f_ofWH (cc := c_l_give) (maxL := 3) (ret := (some FieldType.int)) (by decide) w_l_give (Nat.le_of_ble_eq_true rfl) ?_
  intro p e s m args below meth c R hRf hRl hRc hRs hx hb hr hlk hml hte hts hown hK hZ hsz
  intro H locs ls cells slots hW hS hl hc hs
  have hl : lv_has ls 3 [(0, .ref (L 0 0)), (1, .ref (L 50 0))] := hl
  unfold F_l_give at hF
  refine lv_aload_n hx hb d_l_give_0 rfl (lv_at hl 1 rfl) ?_
  refine lv_iconst (v := 0) hx hb d_l_give_1 (by decide) ?_
  refine lv_aload_n hx hb d_l_give_2 rfl (lv_at hl 0 rfl) ?_
  rcases f_bx_some hF with ⟨v1, z1, hc1, hF⟩ | ⟨v1, z1, hc1, hF⟩
  · skip
    refine hw_VR (k := 0) (i := 0) (nk := 1) (As := []) (rest := [.int 0, .ref (L 50 0)]) hx hb hml hown hts (c_b_give_ok l hl0 hLi   _ _ _ hc1) st_l_45 (by decide) rfl (by omega) rfl rfl hK hZ hsz hS hW rfl hl.1 (Nat.le_of_ble_eq_true rfl) d_l_give_3 (by omega) (by omega) (by omega) (by omega) (fun H locs hW hS => ?_)
    refine lv_i2l hx hb d_l_give_6 rfl ?_
    refine hw_last hx hb hK hLi hW hS d_l_give_7 (fun H locs hW hS => ?_)
    refine lv_goto (tgt := 14) hx hb d_l_give_8 (by decide) ?_
    refine lv_iconst (v := 0) hx hb d_l_give_14 (by decide) ?_
    exact hw_iret hx hb hr hlk (vp_nar_int _) hW hS (by omega) (by omega) d_l_give_15 hF
  · skip
    by_cases e1_0 : v1 = 1
    · replace hF := (if_pos e1_0).symm.trans hF
      subst e1_0
      refine hw_VX (k := 0) (i := 0) (nk := 1) (As := []) (rest := [.int 0, .ref (L 50 0)]) hx hb hml hown hts (c_b_give_ok l hl0 hLi   _ _ _ hc1) st_l_45 (by decide) rfl (by omega) rfl rfl hK hZ hsz hS hW rfl hl.1 (Nat.le_of_ble_eq_true rfl) d_l_give_3 (by omega) (by omega) (by omega) (by omega) (fun q1 ce H locs hW hS hq hv hcl => f_catch1 (E := "java/lang/IllegalStateException") hown hte (by decide) (by decide) (hts _ (wt_in (List.mem_of_getElem? (i := 310) (by decide +kernel)) rfl)) (hZ.2.1 _ (List.mem_of_getElem? (i := 322) (by decide +kernel)) rfl) hq hv hcl ?_)
      refine lv_astore_n (lv' := [(2, .ref q1), (0, .ref (L 0 0)), (1, .ref (L 50 0))]) hx hb d_l_give_11 rfl hl (by decide) rfl (fun ls hl => ?_)
      refine lv_iconst (v := 1) hx hb d_l_give_12 (by decide) ?_
      exact hw_iret hx hb hr hlk (vp_nar_int _) hW hS (by omega) (by omega) d_l_give_13 hF
    replace hF := (if_neg e1_0).symm.trans hF
    cases hF
set_option maxRecDepth 100000 in
set_option maxHeartbeats 4000000 in
theorem c_l_redeem_ok (l : Launch) (hl0 : l.stackTraces = false) {L : Nat → Nat → Nat} {Ar : Nat → ClassId} {D : va_G} {b0 : Nat} (hLi : f_L L b0) (a1 : Int32)  (z : fST) (r : Int32) (z' : fST) (hF : F_l_redeem a1 z = some (r, z')) : f_C l y_l_redeem wt 9 2 L Ar D b0 [.ref (L 0 0), .int a1, .ref (L 50 0)] z (.inl (some (.int r))) z' := by
  refine f_ofWH (cc := c_l_redeem) (maxL := 4) (ret := (some FieldType.int)) (by decide) w_l_redeem (Nat.le_of_ble_eq_true rfl) ?_
  intro p e s m args below meth c R hRf hRl hRc hRs hx hb hr hlk hml hte hts hown hK hZ hsz
  intro H locs ls cells slots hW hS hl hc hs
  have hl : lv_has ls 4 [(0, .ref (L 0 0)), (1, .int a1), (2, .ref (L 50 0))] := hl
  unfold F_l_redeem at hF
  refine lv_aload_n hx hb d_l_redeem_0 rfl (lv_at hl 2 rfl) ?_
  refine lv_iconst (v := 0) hx hb d_l_redeem_1 (by decide) ?_
  refine lv_aload_n hx hb d_l_redeem_2 rfl (lv_at hl 0 rfl) ?_
  refine lv_iload_n hx hb d_l_redeem_3 rfl (lv_at hl 1 rfl) ?_
  rcases f_bx_some hF with ⟨v1, z1, hc1, hF⟩ | ⟨v1, z1, hc1, hF⟩
  · skip
    refine hw_VR (k := 0) (i := 0) (nk := 1) (As := [.int a1]) (rest := [.int 0, .ref (L 50 0)]) hx hb hml hown hts (c_b_redeem_ok l hl0 hLi a1  _ _ _ hc1) st_l_48 (by decide) rfl (by omega) rfl rfl hK hZ hsz hS hW rfl hl.1 (Nat.le_of_ble_eq_true rfl) d_l_redeem_4 (by omega) (by omega) (by omega) (by omega) (fun H locs hW hS => ?_)
    refine lv_i2l hx hb d_l_redeem_7 rfl ?_
    refine hw_last hx hb hK hLi hW hS d_l_redeem_8 (fun H locs hW hS => ?_)
    refine lv_goto (tgt := 18) hx hb d_l_redeem_9 (by decide) ?_
    refine lv_iconst (v := 0) hx hb d_l_redeem_18 (by decide) ?_
    exact hw_iret hx hb hr hlk (vp_nar_int _) hW hS (by omega) (by omega) d_l_redeem_19 hF
  · skip
    by_cases e1_0 : v1 = 1
    · replace hF := (if_pos e1_0).symm.trans hF
      subst e1_0
      refine hw_VX (k := 0) (i := 0) (nk := 1) (As := [.int a1]) (rest := [.int 0, .ref (L 50 0)]) hx hb hml hown hts (c_b_redeem_ok l hl0 hLi a1  _ _ _ hc1) st_l_48 (by decide) rfl (by omega) rfl rfl hK hZ hsz hS hW rfl hl.1 (Nat.le_of_ble_eq_true rfl) d_l_redeem_4 (by omega) (by omega) (by omega) (by omega) (fun q1 ce H locs hW hS hq hv hcl => f_catch1 (E := "java/lang/IllegalStateException") hown hte (by decide) (by decide) (hts _ (wt_in (List.mem_of_getElem? (i := 310) (by decide +kernel)) rfl)) (hZ.2.1 _ (List.mem_of_getElem? (i := 322) (by decide +kernel)) rfl) hq hv hcl ?_)
      refine lv_astore_n (lv' := [(3, .ref q1), (0, .ref (L 0 0)), (1, .int a1), (2, .ref (L 50 0))]) hx hb d_l_redeem_12 rfl hl (by decide) rfl (fun ls hl => ?_)
      refine lv_iconst (v := 1) hx hb d_l_redeem_13 (by decide) ?_
      exact hw_iret hx hb hr hlk (vp_nar_int _) hW hS (by omega) (by omega) d_l_redeem_14 hF
    replace hF := (if_neg e1_0).symm.trans hF
    by_cases e1_1 : v1 = 2
    · replace hF := (if_pos e1_1).symm.trans hF
      subst e1_1
      refine hw_VX (k := 0) (i := 0) (nk := 1) (As := [.int a1]) (rest := [.int 0, .ref (L 50 0)]) hx hb hml hown hts (c_b_redeem_ok l hl0 hLi a1  _ _ _ hc1) st_l_48 (by decide) rfl (by omega) rfl rfl hK hZ hsz hS hW rfl hl.1 (Nat.le_of_ble_eq_true rfl) d_l_redeem_4 (by omega) (by omega) (by omega) (by omega) (fun q1 ce H locs hW hS hq hv hcl => f_catch2 (E := "java/lang/IllegalArgumentException") (E1 := "java/lang/IllegalStateException") hown hte (by decide) (by decide) (by decide) (by decide) (hts _ (wt_in (List.mem_of_getElem? (i := 310) (by decide +kernel)) rfl)) (hts _ (wt_in (List.mem_of_getElem? (i := 311) (by decide +kernel)) rfl)) hZ.2.2 (hZ.2.1 _ (List.mem_of_getElem? (i := 387) (by decide +kernel)) rfl) hq hv hcl ?_)
      refine lv_astore_n (lv' := [(3, .ref q1), (0, .ref (L 0 0)), (1, .int a1), (2, .ref (L 50 0))]) hx hb d_l_redeem_15 rfl hl (by decide) rfl (fun ls hl => ?_)
      refine lv_iconst (v := 2) hx hb d_l_redeem_16 (by decide) ?_
      exact hw_iret hx hb hr hlk (vp_nar_int _) hW hS (by omega) (by omega) d_l_redeem_17 hF
    replace hF := (if_neg e1_1).symm.trans hF
    cases hF
set_option maxRecDepth 100000 in
set_option maxHeartbeats 4000000 in
theorem c_l_clear_ok (l : Launch) (hl0 : l.stackTraces = false) {L : Nat → Nat → Nat} {Ar : Nat → ClassId} {D : va_G} {b0 : Nat} (hLi : f_L L b0)   (z : fST) (r : Int32) (z' : fST) (hF : F_l_clear  z = some (r, z')) : f_C l y_l_clear wt 9 1 L Ar D b0 [.ref (L 0 0), .ref (L 50 0)] z (.inl (some (.int r))) z' := by
  refine f_ofWH (cc := c_l_clear) (maxL := 3) (ret := (some FieldType.int)) (by decide) w_l_clear (Nat.le_of_ble_eq_true rfl) ?_
  intro p e s m args below meth c R hRf hRl hRc hRs hx hb hr hlk hml hte hts hown hK hZ hsz
  intro H locs ls cells slots hW hS hl hc hs
  have hl : lv_has ls 3 [(0, .ref (L 0 0)), (1, .ref (L 50 0))] := hl
  unfold F_l_clear at hF
  refine lv_aload_n hx hb d_l_clear_0 rfl (lv_at hl 1 rfl) ?_
  refine lv_iconst (v := 0) hx hb d_l_clear_1 (by decide) ?_
  refine lv_aload_n hx hb d_l_clear_2 rfl (lv_at hl 0 rfl) ?_
  rcases f_bx_some hF with ⟨v1, z1, hc1, hF⟩ | ⟨v1, z1, hc1, hF⟩
  · skip
    refine hw_VR (k := 0) (i := 0) (nk := 1) (As := []) (rest := [.int 0, .ref (L 50 0)]) hx hb hml hown hts (c_b_clear_ok l hl0 hLi   _ _ _ hc1) st_l_51 (by decide) rfl (by omega) rfl rfl hK hZ hsz hS hW rfl hl.1 (Nat.le_of_ble_eq_true rfl) d_l_clear_3 (by omega) (by omega) (by omega) (by omega) (fun H locs hW hS => ?_)
    refine lv_i2l hx hb d_l_clear_6 rfl ?_
    refine hw_last hx hb hK hLi hW hS d_l_clear_7 (fun H locs hW hS => ?_)
    refine lv_goto (tgt := 14) hx hb d_l_clear_8 (by decide) ?_
    refine lv_iconst (v := 0) hx hb d_l_clear_14 (by decide) ?_
    exact hw_iret hx hb hr hlk (vp_nar_int _) hW hS (by omega) (by omega) d_l_clear_15 hF
  · skip
    by_cases e1_0 : v1 = 1
    · replace hF := (if_pos e1_0).symm.trans hF
      subst e1_0
      refine hw_VX (k := 0) (i := 0) (nk := 1) (As := []) (rest := [.int 0, .ref (L 50 0)]) hx hb hml hown hts (c_b_clear_ok l hl0 hLi   _ _ _ hc1) st_l_51 (by decide) rfl (by omega) rfl rfl hK hZ hsz hS hW rfl hl.1 (Nat.le_of_ble_eq_true rfl) d_l_clear_3 (by omega) (by omega) (by omega) (by omega) (fun q1 ce H locs hW hS hq hv hcl => f_catch1 (E := "java/lang/IllegalStateException") hown hte (by decide) (by decide) (hts _ (wt_in (List.mem_of_getElem? (i := 310) (by decide +kernel)) rfl)) (hZ.2.1 _ (List.mem_of_getElem? (i := 322) (by decide +kernel)) rfl) hq hv hcl ?_)
      refine lv_astore_n (lv' := [(2, .ref q1), (0, .ref (L 0 0)), (1, .ref (L 50 0))]) hx hb d_l_clear_11 rfl hl (by decide) rfl (fun ls hl => ?_)
      refine lv_iconst (v := 1) hx hb d_l_clear_12 (by decide) ?_
      exact hw_iret hx hb hr hlk (vp_nar_int _) hW hS (by omega) (by omega) d_l_clear_13 hF
    replace hF := (if_neg e1_0).symm.trans hF
    cases hF
set_option maxRecDepth 100000 in
set_option maxHeartbeats 4000000 in
theorem c_l_empty_ok (l : Launch) (hl0 : l.stackTraces = false) {L : Nat → Nat → Nat} {Ar : Nat → ClassId} {D : va_G} {b0 : Nat} (hLi : f_L L b0) (a1 : Int32) (a2 : Int32)  (z : fST) (r : Int32) (z' : fST) (hF : F_l_empty a1 a2 z = some (r, z')) : f_C l y_l_empty wt 9 3 L Ar D b0 [.ref (L 0 0), .int a1, .int a2, .ref (L 50 0)] z (.inl (some (.int r))) z' := by
  refine f_ofWH (cc := c_l_empty) (maxL := 5) (ret := (some FieldType.int)) (by decide) w_l_empty (Nat.le_of_ble_eq_true rfl) ?_
  intro p e s m args below meth c R hRf hRl hRc hRs hx hb hr hlk hml hte hts hown hK hZ hsz
  intro H locs ls cells slots hW hS hl hc hs
  have hl : lv_has ls 5 [(0, .ref (L 0 0)), (1, .int a1), (2, .int a2), (3, .ref (L 50 0))] := hl
  unfold F_l_empty at hF
  refine lv_aload_n hx hb d_l_empty_0 rfl (lv_at hl 3 rfl) ?_
  refine lv_iconst (v := 0) hx hb d_l_empty_1 (by decide) ?_
  refine lv_aload_n hx hb d_l_empty_2 rfl (lv_at hl 0 rfl) ?_
  refine lv_iload_n hx hb d_l_empty_3 rfl (lv_at hl 1 rfl) ?_
  refine lv_iload_n hx hb d_l_empty_4 rfl (lv_at hl 2 rfl) ?_
  rcases f_bx_some hF with ⟨v1, z1, hc1, hF⟩ | ⟨v1, z1, hc1, hF⟩
  · skip
    refine hw_VR (k := 0) (i := 0) (nk := 1) (As := [.int a1, .int a2]) (rest := [.int 0, .ref (L 50 0)]) hx hb hml hown hts (c_b_empty_ok l hl0 hLi a1 a2  _ _ _ hc1) st_l_54 (by decide) rfl (by omega) rfl rfl hK hZ hsz hS hW rfl hl.1 (Nat.le_of_ble_eq_true rfl) d_l_empty_5 (by omega) (by omega) (by omega) (by omega) (fun H locs hW hS => ?_)
    refine lv_i2l hx hb d_l_empty_8 rfl ?_
    refine hw_last hx hb hK hLi hW hS d_l_empty_9 (fun H locs hW hS => ?_)
    refine lv_goto (tgt := 21) hx hb d_l_empty_10 (by decide) ?_
    refine lv_iconst (v := 0) hx hb d_l_empty_21 (by decide) ?_
    exact hw_iret hx hb hr hlk (vp_nar_int _) hW hS (by omega) (by omega) d_l_empty_22 hF
  · skip
    by_cases e1_0 : v1 = 1
    · replace hF := (if_pos e1_0).symm.trans hF
      subst e1_0
      refine hw_VX (k := 0) (i := 0) (nk := 1) (As := [.int a1, .int a2]) (rest := [.int 0, .ref (L 50 0)]) hx hb hml hown hts (c_b_empty_ok l hl0 hLi a1 a2  _ _ _ hc1) st_l_54 (by decide) rfl (by omega) rfl rfl hK hZ hsz hS hW rfl hl.1 (Nat.le_of_ble_eq_true rfl) d_l_empty_5 (by omega) (by omega) (by omega) (by omega) (fun q1 ce H locs hW hS hq hv hcl => f_catch1 (E := "java/lang/IllegalStateException") hown hte (by decide) (by decide) (hts _ (wt_in (List.mem_of_getElem? (i := 310) (by decide +kernel)) rfl)) (hZ.2.1 _ (List.mem_of_getElem? (i := 322) (by decide +kernel)) rfl) hq hv hcl ?_)
      refine lv_astore (lv' := [(4, .ref q1), (0, .ref (L 0 0)), (1, .int a1), (2, .int a2), (3, .ref (L 50 0))]) hx hb d_l_empty_13 hl (by decide) rfl (fun ls hl => ?_)
      refine lv_iconst (v := 1) hx hb d_l_empty_15 (by decide) ?_
      exact hw_iret hx hb hr hlk (vp_nar_int _) hW hS (by omega) (by omega) d_l_empty_16 hF
    replace hF := (if_neg e1_0).symm.trans hF
    by_cases e1_1 : v1 = 2
    · replace hF := (if_pos e1_1).symm.trans hF
      subst e1_1
      refine hw_VX (k := 0) (i := 0) (nk := 1) (As := [.int a1, .int a2]) (rest := [.int 0, .ref (L 50 0)]) hx hb hml hown hts (c_b_empty_ok l hl0 hLi a1 a2  _ _ _ hc1) st_l_54 (by decide) rfl (by omega) rfl rfl hK hZ hsz hS hW rfl hl.1 (Nat.le_of_ble_eq_true rfl) d_l_empty_5 (by omega) (by omega) (by omega) (by omega) (fun q1 ce H locs hW hS hq hv hcl => f_catch2 (E := "java/lang/IllegalArgumentException") (E1 := "java/lang/IllegalStateException") hown hte (by decide) (by decide) (by decide) (by decide) (hts _ (wt_in (List.mem_of_getElem? (i := 310) (by decide +kernel)) rfl)) (hts _ (wt_in (List.mem_of_getElem? (i := 311) (by decide +kernel)) rfl)) hZ.2.2 (hZ.2.1 _ (List.mem_of_getElem? (i := 387) (by decide +kernel)) rfl) hq hv hcl ?_)
      refine lv_astore (lv' := [(4, .ref q1), (0, .ref (L 0 0)), (1, .int a1), (2, .int a2), (3, .ref (L 50 0))]) hx hb d_l_empty_17 hl (by decide) rfl (fun ls hl => ?_)
      refine lv_iconst (v := 2) hx hb d_l_empty_19 (by decide) ?_
      exact hw_iret hx hb hr hlk (vp_nar_int _) hW hS (by omega) (by omega) d_l_empty_20 hF
    replace hF := (if_neg e1_1).symm.trans hF
    cases hF
set_option maxRecDepth 100000 in
set_option maxHeartbeats 4000000 in
theorem c_l_service_ok (l : Launch) (hl0 : l.stackTraces = false) {L : Nat → Nat → Nat} {Ar : Nat → ClassId} {D : va_G} {b0 : Nat} (hLi : f_L L b0)   (z : fST) (r : Int32) (z' : fST) (hF : F_l_service  z = some (r, z')) : f_C l y_l_service wt 9 2 L Ar D b0 [.ref (L 0 0), .ref (L 50 0)] z (.inl (some (.int r))) z' := by
  refine f_ofWH (cc := c_l_service) (maxL := 3) (ret := (some FieldType.int)) (by decide) w_l_service (Nat.le_of_ble_eq_true rfl) ?_
  intro p e s m args below meth c R hRf hRl hRc hRs hx hb hr hlk hml hte hts hown hK hZ hsz
  have B14 : ∀  (y2 : Int64) (z : fST), b_l_service_14  y2 z = some (r, z') →  f_B p l e R s m args below meth c L Ar D b0 3 2 (f_E below args s L Ar D b0 2 (.inl (some (.int r))) z') 0 14 [] [.long y2, .int 0, .ref (L 50 0)] z := by
    intro  y2 z hF  H locs ls cells slots hW hS hl hc hs
    unfold b_l_service_14 at hF
    refine hw_last hx hb hK hLi hW hS d_l_service_14 (fun H locs hW hS => ?_)
    refine lv_goto (tgt := 21) hx hb d_l_service_15 (by decide) ?_
    refine lv_iconst (v := 0) hx hb d_l_service_21 (by decide) ?_
    exact hw_iret hx hb hr hlk (vp_nar_int _) hW hS (by omega) (by omega) d_l_service_22 hF
  intro H locs ls cells slots hW hS hl hc hs
  have hl : lv_has ls 3 [(0, .ref (L 0 0)), (1, .ref (L 50 0))] := hl
  unfold F_l_service at hF
  refine lv_aload_n hx hb d_l_service_0 rfl (lv_at hl 1 rfl) ?_
  refine lv_iconst (v := 0) hx hb d_l_service_1 (by decide) ?_
  refine lv_aload_n hx hb d_l_service_2 rfl (lv_at hl 0 rfl) ?_
  rcases f_bx_some hF with ⟨v1, z1, hc1, hF⟩ | ⟨v1, z1, hc1, hF⟩
  · skip
    refine hw_VR (k := 0) (i := 0) (nk := 1) (As := []) (rest := [.int 0, .ref (L 50 0)]) hx hb hml hown hts (c_b_service_ok l hl0 hLi   _ _ _ hc1) st_l_58 (by decide) rfl (by omega) rfl rfl hK hZ hsz hS hW rfl hl.1 (Nat.le_of_ble_eq_true rfl) d_l_service_3 (by omega) (by omega) (by omega) (by omega) (fun H locs hW hS => ?_)
    refine lv_if_eq (tgt := 13) hx hb d_l_service_6 (by decide) (fun h2 => ?_) (fun h2 => ?_)
    · replace hF := (if_pos h2).symm.trans hF
      refine lv_lconst (v := 0) hx hb d_l_service_13 (by decide) ?_
      exact B14 0 z1 hF _ _ _ _ _ hW hS (lv_sub hl [] rfl) (by omega) (by omega)
    · replace hF := (if_neg h2).symm.trans hF
      refine lv_lconst (v := 1) hx hb d_l_service_9 (by decide) ?_
      refine lv_goto (tgt := 14) hx hb d_l_service_10 (by decide) ?_
      exact B14 1 z1 hF _ _ _ _ _ hW hS (lv_sub hl [] rfl) (by omega) (by omega)
  · skip
    by_cases e1_0 : v1 = 1
    · replace hF := (if_pos e1_0).symm.trans hF
      subst e1_0
      refine hw_VX (k := 0) (i := 0) (nk := 1) (As := []) (rest := [.int 0, .ref (L 50 0)]) hx hb hml hown hts (c_b_service_ok l hl0 hLi   _ _ _ hc1) st_l_58 (by decide) rfl (by omega) rfl rfl hK hZ hsz hS hW rfl hl.1 (Nat.le_of_ble_eq_true rfl) d_l_service_3 (by omega) (by omega) (by omega) (by omega) (fun q1 ce H locs hW hS hq hv hcl => f_catch1 (E := "java/lang/IllegalStateException") hown hte (by decide) (by decide) (hts _ (wt_in (List.mem_of_getElem? (i := 310) (by decide +kernel)) rfl)) (hZ.2.1 _ (List.mem_of_getElem? (i := 322) (by decide +kernel)) rfl) hq hv hcl ?_)
      refine lv_astore_n (lv' := [(2, .ref q1), (0, .ref (L 0 0)), (1, .ref (L 50 0))]) hx hb d_l_service_18 rfl hl (by decide) rfl (fun ls hl => ?_)
      refine lv_iconst (v := 1) hx hb d_l_service_19 (by decide) ?_
      exact hw_iret hx hb hr hlk (vp_nar_int _) hW hS (by omega) (by omega) d_l_service_20 hF
    replace hF := (if_neg e1_0).symm.trans hF
    cases hF
set_option maxRecDepth 100000 in
set_option maxHeartbeats 4000000 in
theorem c_l_cut_ok (l : Launch) (hl0 : l.stackTraces = false) {L : Nat → Nat → Nat} {Ar : Nat → ClassId} {D : va_G} {b0 : Nat} (hLi : f_L L b0) (a1 : Int32)  (z : fST) (r : Int32) (z' : fST) (hF : F_l_cut a1 z = some (r, z')) : f_C l y_l_cut wt 9 1 L Ar D b0 [.ref (L 0 0), .int a1] z (.inl (some (.int r))) z' := by
  refine f_ofWH (cc := c_l_cut) (maxL := 3) (ret := (some FieldType.int)) (by decide) w_l_cut (Nat.le_of_ble_eq_true rfl) ?_
  intro p e s m args below meth c R hRf hRl hRc hRs hx hb hr hlk hml hte hts hown hK hZ hsz
  intro H locs ls cells slots hW hS hl hc hs
  have hl : lv_has ls 3 [(0, .ref (L 0 0)), (1, .int a1)] := hl
  unfold F_l_cut at hF
  refine lv_aload_n hx hb d_l_cut_0 rfl (lv_at hl 0 rfl) ?_
  refine lv_iload_n hx hb d_l_cut_1 rfl (lv_at hl 1 rfl) ?_
  rcases f_bx_some hF with ⟨v1, z1, hc1, hF⟩ | ⟨v1, z1, hc1, hF⟩
  · skip
    refine hw_VR (k := 0) (i := 0) (nk := 1) (As := [.int a1]) (rest := []) hx hb hml hown hts (c_b_cut_ok l hl0 hLi a1  _ _ _ hc1) st_l_62 (by decide) rfl (by omega) rfl rfl hK hZ hsz hS hW rfl hl.1 (Nat.le_of_ble_eq_true rfl) d_l_cut_2 (by omega) (by omega) (by omega) (by omega) (fun H locs hW hS => ?_)
    refine lv_goto (tgt := 11) hx hb d_l_cut_5 (by decide) ?_
    refine lv_iconst (v := 0) hx hb d_l_cut_11 (by decide) ?_
    exact hw_iret hx hb hr hlk (vp_nar_int _) hW hS (by omega) (by omega) d_l_cut_12 hF
  · skip
    by_cases e1_0 : v1 = 2
    · replace hF := (if_pos e1_0).symm.trans hF
      subst e1_0
      refine hw_VX (k := 0) (i := 0) (nk := 1) (As := [.int a1]) (rest := []) hx hb hml hown hts (c_b_cut_ok l hl0 hLi a1  _ _ _ hc1) st_l_62 (by decide) rfl (by omega) rfl rfl hK hZ hsz hS hW rfl hl.1 (Nat.le_of_ble_eq_true rfl) d_l_cut_2 (by omega) (by omega) (by omega) (by omega) (fun q1 ce H locs hW hS hq hv hcl => f_catch1 (E := "java/lang/IllegalArgumentException") hown hte (by decide) (by decide) (hts _ (wt_in (List.mem_of_getElem? (i := 311) (by decide +kernel)) rfl)) (hZ.2.1 _ (List.mem_of_getElem? (i := 387) (by decide +kernel)) rfl) hq hv hcl ?_)
      refine lv_astore_n (lv' := [(2, .ref q1), (0, .ref (L 0 0)), (1, .int a1)]) hx hb d_l_cut_8 rfl hl (by decide) rfl (fun ls hl => ?_)
      refine lv_iconst (v := 1) hx hb d_l_cut_9 (by decide) ?_
      exact hw_iret hx hb hr hlk (vp_nar_int _) hW hS (by omega) (by omega) d_l_cut_10 hF
    replace hF := (if_neg e1_0).symm.trans hF
    cases hF
set_option maxRecDepth 100000 in
set_option maxHeartbeats 4000000 in
theorem c_l_check_ok (l : Launch) (hl0 : l.stackTraces = false) {L : Nat → Nat → Nat} {Ar : Nat → ClassId} {D : va_G} {b0 : Nat} (hLi : f_L L b0) (a1 : Int32) (a2 : Int32)  (z : fST) (r : Int32) (z' : fST) (hF : F_l_check a1 a2 z = some (r, z')) : f_C l y_l_check wt 9 2 L Ar D b0 [.ref (L 0 0), .int a1, .int a2, .ref (L 50 0)] z (.inl (some (.int r))) z' := by
  refine f_ofWH (cc := c_l_check) (maxL := 5) (ret := (some FieldType.int)) (by decide) w_l_check (Nat.le_of_ble_eq_true rfl) ?_
  intro p e s m args below meth c R hRf hRl hRc hRs hx hb hr hlk hml hte hts hown hK hZ hsz
  have B16 : ∀  (y2 : Int64) (z : fST), b_l_check_16  y2 z = some (r, z') →  f_B p l e R s m args below meth c L Ar D b0 5 2 (f_E below args s L Ar D b0 2 (.inl (some (.int r))) z') 0 16 [] [.long y2, .int 0, .ref (L 50 0)] z := by
    intro  y2 z hF  H locs ls cells slots hW hS hl hc hs
    unfold b_l_check_16 at hF
    refine hw_last hx hb hK hLi hW hS d_l_check_16 (fun H locs hW hS => ?_)
    refine lv_goto (tgt := 24) hx hb d_l_check_17 (by decide) ?_
    refine lv_iconst (v := 0) hx hb d_l_check_24 (by decide) ?_
    exact hw_iret hx hb hr hlk (vp_nar_int _) hW hS (by omega) (by omega) d_l_check_25 hF
  intro H locs ls cells slots hW hS hl hc hs
  have hl : lv_has ls 5 [(0, .ref (L 0 0)), (1, .int a1), (2, .int a2), (3, .ref (L 50 0))] := hl
  unfold F_l_check at hF
  refine lv_aload_n hx hb d_l_check_0 rfl (lv_at hl 3 rfl) ?_
  refine lv_iconst (v := 0) hx hb d_l_check_1 (by decide) ?_
  refine lv_aload_n hx hb d_l_check_2 rfl (lv_at hl 0 rfl) ?_
  refine lv_iload_n hx hb d_l_check_3 rfl (lv_at hl 1 rfl) ?_
  refine lv_iload_n hx hb d_l_check_4 rfl (lv_at hl 2 rfl) ?_
  rcases f_bx_some hF with ⟨v1, z1, hc1, hF⟩ | ⟨v1, z1, hc1, hF⟩
  · skip
    refine hw_VR (k := 0) (i := 0) (nk := 1) (As := [.int a1, .int a2]) (rest := [.int 0, .ref (L 50 0)]) hx hb hml hown hts (c_b_check_ok l hl0 hLi a1 a2  _ _ _ hc1) st_l_66 (by decide) rfl (by omega) rfl rfl hK hZ hsz hS hW rfl hl.1 (Nat.le_of_ble_eq_true rfl) d_l_check_5 (by omega) (by omega) (by omega) (by omega) (fun H locs hW hS => ?_)
    refine lv_if_eq (tgt := 15) hx hb d_l_check_8 (by decide) (fun h2 => ?_) (fun h2 => ?_)
    · replace hF := (if_pos h2).symm.trans hF
      refine lv_lconst (v := 0) hx hb d_l_check_15 (by decide) ?_
      exact B16 0 z1 hF _ _ _ _ _ hW hS (lv_sub hl [] rfl) (by omega) (by omega)
    · replace hF := (if_neg h2).symm.trans hF
      refine lv_lconst (v := 1) hx hb d_l_check_11 (by decide) ?_
      refine lv_goto (tgt := 16) hx hb d_l_check_12 (by decide) ?_
      exact B16 1 z1 hF _ _ _ _ _ hW hS (lv_sub hl [] rfl) (by omega) (by omega)
  · skip
    by_cases e1_0 : v1 = 2
    · replace hF := (if_pos e1_0).symm.trans hF
      subst e1_0
      refine hw_VX (k := 0) (i := 0) (nk := 1) (As := [.int a1, .int a2]) (rest := [.int 0, .ref (L 50 0)]) hx hb hml hown hts (c_b_check_ok l hl0 hLi a1 a2  _ _ _ hc1) st_l_66 (by decide) rfl (by omega) rfl rfl hK hZ hsz hS hW rfl hl.1 (Nat.le_of_ble_eq_true rfl) d_l_check_5 (by omega) (by omega) (by omega) (by omega) (fun q1 ce H locs hW hS hq hv hcl => f_catch1 (E := "java/lang/IllegalArgumentException") hown hte (by decide) (by decide) (hts _ (wt_in (List.mem_of_getElem? (i := 311) (by decide +kernel)) rfl)) (hZ.2.1 _ (List.mem_of_getElem? (i := 387) (by decide +kernel)) rfl) hq hv hcl ?_)
      refine lv_astore (lv' := [(4, .ref q1), (0, .ref (L 0 0)), (1, .int a1), (2, .int a2), (3, .ref (L 50 0))]) hx hb d_l_check_20 hl (by decide) rfl (fun ls hl => ?_)
      refine lv_iconst (v := 1) hx hb d_l_check_22 (by decide) ?_
      exact hw_iret hx hb hr hlk (vp_nar_int _) hW hS (by omega) (by omega) d_l_check_23 hF
    replace hF := (if_neg e1_0).symm.trans hF
    cases hF
set_option maxRecDepth 100000 in
set_option maxHeartbeats 4000000 in
theorem c_l_about_ok (l : Launch) (hl0 : l.stackTraces = false) {L : Nat → Nat → Nat} {Ar : Nat → ClassId} {D : va_G} {b0 : Nat} (hLi : f_L L b0) (a1 : Int32) (a2 : Int32)  (z : fST) (r : Int32) (z' : fST) (hF : F_l_about a1 a2 z = some (r, z')) : f_C l y_l_about wt 9 2 L Ar D b0 [.ref (L 0 0), .int a1, .int a2, .ref (L 50 0)] z (.inl (some (.int r))) z' := by
  refine f_ofWH (cc := c_l_about) (maxL := 5) (ret := (some FieldType.int)) (by decide) w_l_about (Nat.le_of_ble_eq_true rfl) ?_
  intro p e s m args below meth c R hRf hRl hRc hRs hx hb hr hlk hml hte hts hown hK hZ hsz
  intro H locs ls cells slots hW hS hl hc hs
  have hl : lv_has ls 5 [(0, .ref (L 0 0)), (1, .int a1), (2, .int a2), (3, .ref (L 50 0))] := hl
  unfold F_l_about at hF
  refine lv_aload_n hx hb d_l_about_0 rfl (lv_at hl 3 rfl) ?_
  refine lv_iconst (v := 0) hx hb d_l_about_1 (by decide) ?_
  refine lv_aload_n hx hb d_l_about_2 rfl (lv_at hl 0 rfl) ?_
  refine lv_iload_n hx hb d_l_about_3 rfl (lv_at hl 1 rfl) ?_
  refine lv_iload_n hx hb d_l_about_4 rfl (lv_at hl 2 rfl) ?_
  rcases f_bx_some hF with ⟨v1, z1, hc1, hF⟩ | ⟨v1, z1, hc1, hF⟩
  · skip
    refine hw_VR (k := 0) (i := 0) (nk := 1) (As := [.int a1, .int a2]) (rest := [.int 0, .ref (L 50 0)]) hx hb hml hown hts (c_b_about_ok l hl0 hLi a1 a2  _ _ _ hc1) st_l_70 (by decide) rfl (by omega) rfl rfl hK hZ hsz hS hW rfl hl.1 (Nat.le_of_ble_eq_true rfl) d_l_about_5 (by omega) (by omega) (by omega) (by omega) (fun H locs hW hS => ?_)
    refine lv_i2l hx hb d_l_about_8 rfl ?_
    refine hw_last hx hb hK hLi hW hS d_l_about_9 (fun H locs hW hS => ?_)
    refine lv_goto (tgt := 17) hx hb d_l_about_10 (by decide) ?_
    refine lv_iconst (v := 0) hx hb d_l_about_17 (by decide) ?_
    exact hw_iret hx hb hr hlk (vp_nar_int _) hW hS (by omega) (by omega) d_l_about_18 hF
  · skip
    by_cases e1_0 : v1 = 2
    · replace hF := (if_pos e1_0).symm.trans hF
      subst e1_0
      refine hw_VX (k := 0) (i := 0) (nk := 1) (As := [.int a1, .int a2]) (rest := [.int 0, .ref (L 50 0)]) hx hb hml hown hts (c_b_about_ok l hl0 hLi a1 a2  _ _ _ hc1) st_l_70 (by decide) rfl (by omega) rfl rfl hK hZ hsz hS hW rfl hl.1 (Nat.le_of_ble_eq_true rfl) d_l_about_5 (by omega) (by omega) (by omega) (by omega) (fun q1 ce H locs hW hS hq hv hcl => f_catch1 (E := "java/lang/IllegalArgumentException") hown hte (by decide) (by decide) (hts _ (wt_in (List.mem_of_getElem? (i := 311) (by decide +kernel)) rfl)) (hZ.2.1 _ (List.mem_of_getElem? (i := 387) (by decide +kernel)) rfl) hq hv hcl ?_)
      refine lv_astore (lv' := [(4, .ref q1), (0, .ref (L 0 0)), (1, .int a1), (2, .int a2), (3, .ref (L 50 0))]) hx hb d_l_about_13 hl (by decide) rfl (fun ls hl => ?_)
      refine lv_iconst (v := 1) hx hb d_l_about_15 (by decide) ?_
      exact hw_iret hx hb hr hlk (vp_nar_int _) hW hS (by omega) (by omega) d_l_about_16 hF
    replace hF := (if_neg e1_0).symm.trans hF
    cases hF
set_option maxRecDepth 100000 in
set_option maxHeartbeats 4000000 in
theorem c_l_container_ok (l : Launch) (hl0 : l.stackTraces = false) {L : Nat → Nat → Nat} {Ar : Nat → ClassId} {D : va_G} {b0 : Nat} (hLi : f_L L b0) (a1 : Int32) (a2 : Int32)  (z : fST) (r : Int32) (z' : fST) (hF : F_l_container a1 a2 z = some (r, z')) : f_C l y_l_container wt 8 1 L Ar D b0 [.ref (L 0 0), .int a1, .int a2, .ref (L 50 0)] z (.inl (some (.int r))) z' := by
  refine f_ofWH (cc := c_l_container) (maxL := 5) (ret := (some FieldType.int)) (by decide) w_l_container (Nat.le_of_ble_eq_true rfl) ?_
  intro p e s m args below meth c R hRf hRl hRc hRs hx hb hr hlk hml hte hts hown hK hZ hsz
  intro H locs ls cells slots hW hS hl hc hs
  have hl : lv_has ls 5 [(0, .ref (L 0 0)), (1, .int a1), (2, .int a2), (3, .ref (L 50 0))] := hl
  unfold F_l_container at hF
  refine lv_aload_n hx hb d_l_container_0 rfl (lv_at hl 3 rfl) ?_
  refine lv_iconst (v := 0) hx hb d_l_container_1 (by decide) ?_
  refine lv_aload_n hx hb d_l_container_2 rfl (lv_at hl 0 rfl) ?_
  refine lv_iload_n hx hb d_l_container_3 rfl (lv_at hl 1 rfl) ?_
  refine lv_iload_n hx hb d_l_container_4 rfl (lv_at hl 2 rfl) ?_
  rcases f_bx_some hF with ⟨v1, z1, hc1, hF⟩ | ⟨v1, z1, hc1, hF⟩
  · skip
    refine hw_VR (k := 0) (i := 0) (nk := 1) (As := [.int a1, .int a2]) (rest := [.int 0, .ref (L 50 0)]) hx hb hml hown hts (c_b_container_ok l hl0 hLi a1 a2  _ _ _ hc1) st_l_73 (by decide) rfl (by omega) rfl rfl hK hZ hsz hS hW rfl hl.1 (Nat.le_of_ble_eq_true rfl) d_l_container_5 (by omega) (by omega) (by omega) (by omega) (fun H locs hW hS => ?_)
    refine lv_i2l hx hb d_l_container_8 rfl ?_
    refine hw_last hx hb hK hLi hW hS d_l_container_9 (fun H locs hW hS => ?_)
    refine lv_goto (tgt := 17) hx hb d_l_container_10 (by decide) ?_
    refine lv_iconst (v := 0) hx hb d_l_container_17 (by decide) ?_
    exact hw_iret hx hb hr hlk (vp_nar_int _) hW hS (by omega) (by omega) d_l_container_18 hF
  · skip
    by_cases e1_0 : v1 = 2
    · replace hF := (if_pos e1_0).symm.trans hF
      subst e1_0
      refine hw_VX (k := 0) (i := 0) (nk := 1) (As := [.int a1, .int a2]) (rest := [.int 0, .ref (L 50 0)]) hx hb hml hown hts (c_b_container_ok l hl0 hLi a1 a2  _ _ _ hc1) st_l_73 (by decide) rfl (by omega) rfl rfl hK hZ hsz hS hW rfl hl.1 (Nat.le_of_ble_eq_true rfl) d_l_container_5 (by omega) (by omega) (by omega) (by omega) (fun q1 ce H locs hW hS hq hv hcl => f_catch1 (E := "java/lang/IllegalArgumentException") hown hte (by decide) (by decide) (hts _ (wt_in (List.mem_of_getElem? (i := 311) (by decide +kernel)) rfl)) (hZ.2.1 _ (List.mem_of_getElem? (i := 387) (by decide +kernel)) rfl) hq hv hcl ?_)
      refine lv_astore (lv' := [(4, .ref q1), (0, .ref (L 0 0)), (1, .int a1), (2, .int a2), (3, .ref (L 50 0))]) hx hb d_l_container_13 hl (by decide) rfl (fun ls hl => ?_)
      refine lv_iconst (v := 1) hx hb d_l_container_15 (by decide) ?_
      exact hw_iret hx hb hr hlk (vp_nar_int _) hW hS (by omega) (by omega) d_l_container_16 hF
    replace hF := (if_neg e1_0).symm.trans hF
    cases hF
set_option maxRecDepth 100000 in
set_option maxHeartbeats 4000000 in
theorem c_l_bin_ok (l : Launch) (hl0 : l.stackTraces = false) {L : Nat → Nat → Nat} {Ar : Nat → ClassId} {D : va_G} {b0 : Nat} (hLi : f_L L b0) (a1 : Int32) (a2 : Int32)  (z : fST) (r : Int32) (z' : fST) (hF : F_l_bin a1 a2 z = some (r, z')) : f_C l y_l_bin wt 9 2 L Ar D b0 [.ref (L 0 0), .int a1, .int a2, .ref (L 50 0)] z (.inl (some (.int r))) z' := by
  refine f_ofWH (cc := c_l_bin) (maxL := 5) (ret := (some FieldType.int)) (by decide) w_l_bin (Nat.le_of_ble_eq_true rfl) ?_
  intro p e s m args below meth c R hRf hRl hRc hRs hx hb hr hlk hml hte hts hown hK hZ hsz
  intro H locs ls cells slots hW hS hl hc hs
  have hl : lv_has ls 5 [(0, .ref (L 0 0)), (1, .int a1), (2, .int a2), (3, .ref (L 50 0))] := hl
  unfold F_l_bin at hF
  refine lv_aload_n hx hb d_l_bin_0 rfl (lv_at hl 3 rfl) ?_
  refine lv_iconst (v := 0) hx hb d_l_bin_1 (by decide) ?_
  refine lv_aload_n hx hb d_l_bin_2 rfl (lv_at hl 0 rfl) ?_
  refine lv_iload_n hx hb d_l_bin_3 rfl (lv_at hl 1 rfl) ?_
  refine lv_iload_n hx hb d_l_bin_4 rfl (lv_at hl 2 rfl) ?_
  rcases f_bx_some hF with ⟨v1, z1, hc1, hF⟩ | ⟨v1, z1, hc1, hF⟩
  · skip
    refine hw_VR (k := 0) (i := 0) (nk := 1) (As := [.int a1, .int a2]) (rest := [.int 0, .ref (L 50 0)]) hx hb hml hown hts (c_b_bin_ok l hl0 hLi a1 a2  _ _ _ hc1) st_l_76 (by decide) rfl (by omega) rfl rfl hK hZ hsz hS hW rfl hl.1 (Nat.le_of_ble_eq_true rfl) d_l_bin_5 (by omega) (by omega) (by omega) (by omega) (fun H locs hW hS => ?_)
    refine lv_i2l hx hb d_l_bin_8 rfl ?_
    refine hw_last hx hb hK hLi hW hS d_l_bin_9 (fun H locs hW hS => ?_)
    refine lv_goto (tgt := 17) hx hb d_l_bin_10 (by decide) ?_
    refine lv_iconst (v := 0) hx hb d_l_bin_17 (by decide) ?_
    exact hw_iret hx hb hr hlk (vp_nar_int _) hW hS (by omega) (by omega) d_l_bin_18 hF
  · skip
    by_cases e1_0 : v1 = 2
    · replace hF := (if_pos e1_0).symm.trans hF
      subst e1_0
      refine hw_VX (k := 0) (i := 0) (nk := 1) (As := [.int a1, .int a2]) (rest := [.int 0, .ref (L 50 0)]) hx hb hml hown hts (c_b_bin_ok l hl0 hLi a1 a2  _ _ _ hc1) st_l_76 (by decide) rfl (by omega) rfl rfl hK hZ hsz hS hW rfl hl.1 (Nat.le_of_ble_eq_true rfl) d_l_bin_5 (by omega) (by omega) (by omega) (by omega) (fun q1 ce H locs hW hS hq hv hcl => f_catch1 (E := "java/lang/IllegalArgumentException") hown hte (by decide) (by decide) (hts _ (wt_in (List.mem_of_getElem? (i := 311) (by decide +kernel)) rfl)) (hZ.2.1 _ (List.mem_of_getElem? (i := 387) (by decide +kernel)) rfl) hq hv hcl ?_)
      refine lv_astore (lv' := [(4, .ref q1), (0, .ref (L 0 0)), (1, .int a1), (2, .int a2), (3, .ref (L 50 0))]) hx hb d_l_bin_13 hl (by decide) rfl (fun ls hl => ?_)
      refine lv_iconst (v := 1) hx hb d_l_bin_15 (by decide) ?_
      exact hw_iret hx hb hr hlk (vp_nar_int _) hW hS (by omega) (by omega) d_l_bin_16 hF
    replace hF := (if_neg e1_0).symm.trans hF
    cases hF
set_option maxRecDepth 100000 in
set_option maxHeartbeats 4000000 in
theorem c_l_total_ok (l : Launch) (hl0 : l.stackTraces = false) {L : Nat → Nat → Nat} {Ar : Nat → ClassId} {D : va_G} {b0 : Nat} (hLi : f_L L b0) (a1 : Int32)  (z : fST) (r : Int32) (z' : fST) (hF : F_l_total a1 z = some (r, z')) : f_C l y_l_total wt 8 1 L Ar D b0 [.ref (L 0 0), .int a1, .ref (L 50 0)] z (.inl (some (.int r))) z' := by
  refine f_ofWH (cc := c_l_total) (maxL := 4) (ret := (some FieldType.int)) (by decide) w_l_total (Nat.le_of_ble_eq_true rfl) ?_
  intro p e s m args below meth c R hRf hRl hRc hRs hx hb hr hlk hml hte hts hown hK hZ hsz
  intro H locs ls cells slots hW hS hl hc hs
  have hl : lv_has ls 4 [(0, .ref (L 0 0)), (1, .int a1), (2, .ref (L 50 0))] := hl
  unfold F_l_total at hF
  refine lv_aload_n hx hb d_l_total_0 rfl (lv_at hl 2 rfl) ?_
  refine lv_iconst (v := 0) hx hb d_l_total_1 (by decide) ?_
  refine lv_aload_n hx hb d_l_total_2 rfl (lv_at hl 0 rfl) ?_
  refine lv_iload_n hx hb d_l_total_3 rfl (lv_at hl 1 rfl) ?_
  rcases f_bx_some hF with ⟨v1, z1, hc1, hF⟩ | ⟨v1, z1, hc1, hF⟩
  · skip
    refine hw_VR (k := 0) (i := 0) (nk := 1) (As := [.int a1]) (rest := [.int 0, .ref (L 50 0)]) hx hb hml hown hts (c_b_total_ok l hl0 hLi a1  _ _ _ hc1) st_l_79 (by decide) rfl (by omega) rfl rfl hK hZ hsz hS hW rfl hl.1 (Nat.le_of_ble_eq_true rfl) d_l_total_4 (by omega) (by omega) (by omega) (by omega) (fun H locs hW hS => ?_)
    refine lv_i2l hx hb d_l_total_7 rfl ?_
    refine hw_last hx hb hK hLi hW hS d_l_total_8 (fun H locs hW hS => ?_)
    refine lv_goto (tgt := 15) hx hb d_l_total_9 (by decide) ?_
    refine lv_iconst (v := 0) hx hb d_l_total_15 (by decide) ?_
    exact hw_iret hx hb hr hlk (vp_nar_int _) hW hS (by omega) (by omega) d_l_total_16 hF
  · skip
    by_cases e1_0 : v1 = 2
    · replace hF := (if_pos e1_0).symm.trans hF
      subst e1_0
      refine hw_VX (k := 0) (i := 0) (nk := 1) (As := [.int a1]) (rest := [.int 0, .ref (L 50 0)]) hx hb hml hown hts (c_b_total_ok l hl0 hLi a1  _ _ _ hc1) st_l_79 (by decide) rfl (by omega) rfl rfl hK hZ hsz hS hW rfl hl.1 (Nat.le_of_ble_eq_true rfl) d_l_total_4 (by omega) (by omega) (by omega) (by omega) (fun q1 ce H locs hW hS hq hv hcl => f_catch1 (E := "java/lang/IllegalArgumentException") hown hte (by decide) (by decide) (hts _ (wt_in (List.mem_of_getElem? (i := 311) (by decide +kernel)) rfl)) (hZ.2.1 _ (List.mem_of_getElem? (i := 387) (by decide +kernel)) rfl) hq hv hcl ?_)
      refine lv_astore_n (lv' := [(3, .ref q1), (0, .ref (L 0 0)), (1, .int a1), (2, .ref (L 50 0))]) hx hb d_l_total_12 rfl hl (by decide) rfl (fun ls hl => ?_)
      refine lv_iconst (v := 1) hx hb d_l_total_13 (by decide) ?_
      exact hw_iret hx hb hr hlk (vp_nar_int _) hW hS (by omega) (by omega) d_l_total_14 hF
    replace hF := (if_neg e1_0).symm.trans hF
    cases hF
