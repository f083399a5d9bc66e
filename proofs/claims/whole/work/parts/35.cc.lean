/-! contracts: the method does what its pure function says -/
set_option maxRecDepth 100000 in
set_option maxHeartbeats 4000000 in
theorem c_b_about_ok (l : Launch) (hl0 : l.stackTraces = false) {L : Nat → Nat → Nat} {Ar : Nat → ClassId} {D : va_G} {b0 : Nat} (hLi : f_L L b0) (a1 : Int32) (a2 : Int32)  (z : fST) (r : Int32 ⊕ Nat) (z' : fST) (hF : F_b_about a1 a2 z = some (r, z')) : f_C l y_b_about wt 8 2 L Ar D b0 [.ref (L 0 0), .int a1, .int a2] z (f_oi r) z' := by
  refine f_ofW (cc := c_b_about) (maxL := 4) (ret := (some FieldType.int)) (by decide) w_b_about (Nat.le_of_ble_eq_true rfl) ?_
  intro p e s m args below meth c R hRf hRl hRc hRs hx hb hr hlk hml hno hts hown hK hZ hsz
  intro H locs ls cells slots hW hS hl hc hs
  have hl : lv_has ls 4 [(0, .ref (L 0 0)), (1, .int a1), (2, .int a2)] := hl
  unfold F_b_about at hF
  refine lv_aload_n hx hb d_b_about_0 rfl (lv_at hl 0 rfl) ?_
  refine hw_get (k := 0) (i := 0) (n := 1) (j := 3) (v := .ref (L 19 0)) hx hb hts hown hK hW fl_b_33 rfl (by omega) rfl d_b_about_1 ?_
  refine lv_iload_n hx hb d_b_about_4 rfl (lv_at hl 1 rfl) ?_
  obtain ⟨v1, z1, hc1, hF⟩ := f_bd_some hF
  refine hw_VR (k := 19) (i := 0) (nk := 1) (As := [.int a1]) (rest := []) hx hb hml hown hts (c_vo_placeOf_ok l hl0 hLi a1  _ _ _ hc1) st_b_151 (by decide) rfl (by omega) rfl rfl hK hZ hsz hS hW rfl hl.1 (Nat.le_of_ble_eq_true rfl) d_b_about_5 (by omega) (by omega) (by omega) (by omega) (fun H locs hW hS => ?_)
  refine lv_istore_n (lv' := [(3, .int v1), (0, .ref (L 0 0)), (1, .int a1), (2, .int a2)]) hx hb d_b_about_8 rfl hl (by decide) rfl (fun ls hl => ?_)
  refine lv_iload_n hx hb d_b_about_9 rfl (lv_at hl 0 rfl) ?_
  refine lv_aload_n hx hb d_b_about_10 rfl (lv_at hl 1 rfl) ?_
  refine hw_get (k := 0) (i := 0) (n := 1) (j := 3) (v := .ref (L 19 0)) hx hb hts hown hK hW fl_b_33 rfl (by omega) rfl d_b_about_11 ?_
  refine hw_get (k := 19) (i := 0) (n := 1) (j := 3) (v := .int (f_gI z1 19 0 3)) hx hb hts hown hK hW fl_b_154 rfl (by omega) rfl d_b_about_14 ?_
  obtain ⟨v2, z2, hc2, hF⟩ := f_bd_some hF
  refine hw_SR (As := [.int v1, .int (f_gI z1 19 0 3)]) (rest := []) hx hb hml hown hts (c_b_isIndex_ok l hl0 hLi v1 (f_gI z1 19 0 3)  _ _ _ hc2) st_b_58 hK hZ hsz hS hW rfl hl.1 (Nat.le_of_ble_eq_true rfl) d_b_about_17 (by omega) (by omega) (by omega) (by omega) (fun H locs hW hS => ?_)
  rcases f_bx_some hF with ⟨v3, z3, hc3, hF⟩ | ⟨v3, z3, hc3, hF⟩
  · skip
    refine hw_SR (As := [.int v2]) (rest := []) hx hb hml hown hts (c_b_require_ok l hl0 hLi v2  _ _ _ hc3) st_b_62 hK hZ hsz hS hW rfl hl.1 (Nat.le_of_ble_eq_true rfl) d_b_about_20 (by omega) (by omega) (by omega) (by omega) (fun H locs hW hS => ?_)
    refine lv_iload_n hx hb d_b_about_23 rfl (lv_at hl 3 rfl) ?_
    refine lv_topi (fun w4 e5 => ?_)
    rw [← e5] at hF
    by_cases h6 : w4 = 0
    · replace hF := (if_pos h6).symm.trans hF
      subst h6
      refine lv_tableIn (tgt := 56) hx hb d_b_about_24 (by decide) (by decide) rfl (by decide) ?_
      refine lv_aload_n hx hb d_b_about_56 rfl (lv_at hl 1 rfl) ?_
      refine hw_get (k := 0) (i := 0) (n := 1) (j := 3) (v := .ref (L 19 0)) hx hb hts hown hK hW fl_b_33 rfl (by omega) rfl d_b_about_57 ?_
      refine hw_get (k := 19) (i := 0) (n := 1) (j := 1) (v := .ref (L 21 0)) hx hb hts hown hK hW fl_b_193 rfl (by omega) rfl d_b_about_60 ?_
      refine lv_iload_n hx hb d_b_about_63 rfl (lv_at hl 0 rfl) ?_
      obtain ⟨g7, hF⟩ := f_gd_some hF
      refine hw_iald (k := 21) (i := 0) (n := 1) hx hb hK hW (by decide) rfl (by omega) rfl g7 d_b_about_64 ?_
      exact hw_iretX hx hb hr hlk (vp_nar_int _) hW hS (by omega) (by omega) d_b_about_65 hF
    replace hF := (if_neg h6).symm.trans hF
    by_cases h8 : w4 = 1
    · replace hF := (if_pos h8).symm.trans hF
      subst h8
      refine lv_tableIn (tgt := 66) hx hb d_b_about_24 (by decide) (by decide) rfl (by decide) ?_
      refine lv_aload_n hx hb d_b_about_66 rfl (lv_at hl 1 rfl) ?_
      refine hw_get (k := 0) (i := 0) (n := 1) (j := 3) (v := .ref (L 19 0)) hx hb hts hown hK hW fl_b_33 rfl (by omega) rfl d_b_about_67 ?_
      refine lv_iload_n hx hb d_b_about_70 rfl (lv_at hl 0 rfl) ?_
      obtain ⟨v9, z9, hc9, hF⟩ := f_bd_some hF
      refine hw_VR (k := 19) (i := 0) (nk := 1) (As := [.int v1]) (rest := []) hx hb hml hown hts (c_vo_firstDigits_ok l hl0 hLi v1  _ _ _ hc9) st_b_196 (by decide) rfl (by omega) rfl rfl hK hZ hsz hS hW rfl hl.1 (Nat.le_of_ble_eq_true rfl) d_b_about_71 (by omega) (by omega) (by omega) (by omega) (fun H locs hW hS => ?_)
      exact hw_iretX hx hb hr hlk (vp_nar_int _) hW hS (by omega) (by omega) d_b_about_74 hF
    replace hF := (if_neg h8).symm.trans hF
    by_cases h10 : w4 = 2
    · replace hF := (if_pos h10).symm.trans hF
      subst h10
      refine lv_tableIn (tgt := 75) hx hb d_b_about_24 (by decide) (by decide) rfl (by decide) ?_
      refine lv_aload_n hx hb d_b_about_75 rfl (lv_at hl 1 rfl) ?_
      refine hw_get (k := 0) (i := 0) (n := 1) (j := 3) (v := .ref (L 19 0)) hx hb hts hown hK hW fl_b_33 rfl (by omega) rfl d_b_about_76 ?_
      refine lv_iload_n hx hb d_b_about_79 rfl (lv_at hl 0 rfl) ?_
      obtain ⟨v11, z11, hc11, hF⟩ := f_bd_some hF
      refine hw_VR (k := 19) (i := 0) (nk := 1) (As := [.int v1]) (rest := []) hx hb hml hown hts (c_vo_lastDigits_ok l hl0 hLi v1  _ _ _ hc11) st_b_199 (by decide) rfl (by omega) rfl rfl hK hZ hsz hS hW rfl hl.1 (Nat.le_of_ble_eq_true rfl) d_b_about_80 (by omega) (by omega) (by omega) (by omega) (fun H locs hW hS => ?_)
      exact hw_iretX hx hb hr hlk (vp_nar_int _) hW hS (by omega) (by omega) d_b_about_83 hF
    replace hF := (if_neg h10).symm.trans hF
    by_cases h12 : w4 = 3
    · replace hF := (if_pos h12).symm.trans hF
      subst h12
      refine lv_tableIn (tgt := 84) hx hb d_b_about_24 (by decide) (by decide) rfl (by decide) ?_
      refine lv_aload_n hx hb d_b_about_84 rfl (lv_at hl 1 rfl) ?_
      refine hw_get (k := 0) (i := 0) (n := 1) (j := 3) (v := .ref (L 19 0)) hx hb hts hown hK hW fl_b_33 rfl (by omega) rfl d_b_about_85 ?_
      refine hw_get (k := 19) (i := 0) (n := 1) (j := 2) (v := .ref (L 22 0)) hx hb hts hown hK hW fl_b_202 rfl (by omega) rfl d_b_about_88 ?_
      refine lv_iload_n hx hb d_b_about_91 rfl (lv_at hl 0 rfl) ?_
      obtain ⟨g13, hF⟩ := f_gd_some hF
      refine hw_zald (k := 22) (i := 0) (n := 1) hx hb hK hW (by decide) rfl (by omega) rfl g13 d_b_about_92 ?_
      obtain ⟨v14, z14, hc14, hF⟩ := f_bd_some hF
      refine hw_SR (As := [.int (f_gI z3 22 0 (f_ix v1))]) (rest := []) hx hb hml hown hts (c_b_asNumber_ok l hl0 hLi (f_gI z3 22 0 (f_ix v1))  _ _ _ hc14) st_b_206 hK hZ hsz hS hW rfl hl.1 (Nat.le_of_ble_eq_true rfl) d_b_about_93 (by omega) (by omega) (by omega) (by omega) (fun H locs hW hS => ?_)
      exact hw_iretX hx hb hr hlk (vp_nar_int _) hW hS (by omega) (by omega) d_b_about_96 hF
    replace hF := (if_neg h12).symm.trans hF
    refine f_swd (x := w4) (hi := 3) (tgt := 97) hx hb d_b_about_24 (by decide) (fun k hk => by rcases (show k = 0 ∨ k = 1 ∨ k = 2 ∨ k = 3 by omega) with rfl | rfl | rfl | rfl <;> first | exact Or.inr rfl | exact Or.inl h6 | exact Or.inl h8 | exact Or.inl h10 | exact Or.inl h12) (by decide) ?_
    exact hw_throw (g := f_oi) hl0 hx hb hts hown hlk hml hno hZ hsz rfl tw_b_210_212 hW hS hl.1 d_b_about_97 d_b_about_100 d_b_about_101 d_b_about_104 (by omega) (Nat.le_trans (Nat.le_of_ble_eq_true rfl : _ ≤ 40 * 8) (Nat.le_of_eq hRl.symm)) (by omega) (by omega) (by omega) (by omega) hF
  · cases hF
    exact hw_SX (As := [.int v2]) (rest := []) hx hb hml hown hts (c_b_require_ok l hl0 hLi v2  _ _ _ hc3) st_b_62 hK hZ hsz hS hW rfl hl.1 (Nat.le_of_ble_eq_true rfl) d_b_about_20 (by omega) (by omega) (by omega) (by omega) (fun q ce H locs hW hS hq hv hcl => hw_out (fun x hx => (hno x hx).elim) hlk hW hS hq hv hcl (by omega) (by omega))
set_option maxRecDepth 100000 in
set_option maxHeartbeats 4000000 in
theorem c_be_withNumber_ok (l : Launch) (hl0 : l.stackTraces = false) {L : Nat → Nat → Nat} {Ar : Nat → ClassId} {D : va_G} {b0 : Nat} (hLi : f_L L b0) (a1 : Int32)  (z : fST) (r : Option Nat) (z' : fST) (hF : F_be_withNumber a1 z = some (r, z')) : f_C l y_be_withNumber wt 1 0 L Ar D b0 [.ref (L 11 0), .int a1] z (.inl (some (f_rv L 13 r))) z' := by
  refine f_ofW (cc := c_be_withNumber) (maxL := 3) (ret := (Option.some (Jvm.ClassFile.FieldType.object "BottleReturn$Container"))) (by decide) w_be_withNumber (Nat.le_of_ble_eq_true rfl) ?_
  intro p e s m args below meth c R hRf hRl hRc hRs hx hb hr hlk hml hno hts hown hK hZ hsz
  have B2 : ∀  (n : Nat) (x1 : Int32) (x2 : Int32) (z : fST), f_it (b_be_withNumber_2 ) n (x1, x2, z) = some (r, z') →  f_B p l e R s m args below meth c L Ar D b0 3 0 (f_E below args s L Ar D b0 0 (.inl (some (f_rv L 13 r))) z') 0 2 [(0, .ref (L 11 0)), (1, .int x1), (2, .int x2)] [] z := by
    intro  n
    induction n with
    | zero => intro x1 x2 z hF; cases hF
    | succ n ih =>
    intro x1 x2 z hF  H locs ls cells slots hW hS hl hc hs
    replace hF := f_it_s hF
    have K2 : ∀ (x1 : Int32) (x2 : Int32) (z : fST), f_it (b_be_withNumber_2 ) n (x1, x2, z) = some (r, z') →  f_B p l e R s m args below meth c L Ar D b0 3 0 (f_E below args s L Ar D b0 0 (.inl (some (f_rv L 13 r))) z') 0 2 [(0, .ref (L 11 0)), (1, .int x1), (2, .int x2)] [] z := fun x1 x2 z hF => ih x1 x2 z hF
    generalize f_it (b_be_withNumber_2 ) n = k2 at hF K2
    unfold b_be_withNumber_2 at hF
    dsimp only at hF
    refine lv_iload_n hx hb d_be_withNumber_2 rfl (lv_at hl 2 rfl) ?_
    refine lv_aload_n hx hb d_be_withNumber_3 rfl (lv_at hl 0 rfl) ?_
    refine hw_get (k := 11) (i := 0) (n := 1) (j := 1) (v := .int (f_gI z 11 0 1)) hx hb hts hown hK hW fl_be_18 rfl (by omega) rfl d_be_withNumber_4 ?_
    refine lv_icmp_ge (tgt := 36) hx hb d_be_withNumber_7 (by decide) (fun h1 => ?_) (fun h1 => ?_)
    · replace hF := (if_pos h1).symm.trans hF
      refine lv_null hx hb d_be_withNumber_36 ?_
      exact hw_aret0 hx hb hr (Or.inl ⟨_, rfl⟩) hlk hW hS (by omega) (by omega) d_be_withNumber_37 hF
    · replace hF := (if_neg h1).symm.trans hF
      refine lv_aload_n hx hb d_be_withNumber_10 rfl (lv_at hl 0 rfl) ?_
      refine hw_get (k := 11) (i := 0) (n := 1) (j := 0) (v := .ref (L 12 0)) hx hb hts hown hK hW fl_be_11 rfl (by omega) rfl d_be_withNumber_11 ?_
      refine lv_iload_n hx hb d_be_withNumber_14 rfl (lv_at hl 2 rfl) ?_
      obtain ⟨g2, hF⟩ := f_gd_some hF
      obtain ⟨g3, hF⟩ := f_gd_some hF
      have g3 := of_decide_eq_true g3
      refine hw_rald hx hb hK hW g2 d_be_withNumber_15 ?_
      refine hw_get (k := 13) (i := f_gR z (f_ix x2)) (n := 16) (j := 2) (v := .int (f_gI z 13 (f_gR z (f_ix x2)) 2)) hx hb hts hown hK hW fl_be_37 rfl (by omega) rfl d_be_withNumber_16 ?_
      refine lv_iload_n hx hb d_be_withNumber_19 rfl (lv_at hl 1 rfl) ?_
      refine lv_icmp_ne (tgt := 30) hx hb d_be_withNumber_20 (by decide) (fun h4 => ?_) (fun h4 => ?_)
      · replace hF := (if_neg h4).symm.trans hF
        refine lv_iinc (k := 2) (x := x2) (v := x2 + 1) (lv' := [(2, .int (x2 + 1)), (0, .ref (L 11 0)), (1, .int x1)]) hx hb d_be_withNumber_30 hl rfl rfl (by decide) rfl (fun ls hl => ?_)
        refine lv_goto (tgt := 2) hx hb d_be_withNumber_33 (by decide) ?_
        exact K2 x1 (x2 + 1) z hF _ _ _ _ _ hW hS (lv_sub hl [1, 2, 0] rfl) (by omega) (by omega)
      · replace hF := (if_pos h4).symm.trans hF
        refine lv_aload_n hx hb d_be_withNumber_23 rfl (lv_at hl 0 rfl) ?_
        refine hw_get (k := 11) (i := 0) (n := 1) (j := 0) (v := .ref (L 12 0)) hx hb hts hown hK hW fl_be_11 rfl (by omega) rfl d_be_withNumber_24 ?_
        refine lv_iload_n hx hb d_be_withNumber_27 rfl (lv_at hl 2 rfl) ?_
        obtain ⟨g5, hF⟩ := f_gd_some hF
        obtain ⟨g6, hF⟩ := f_gd_some hF
        have g6 := of_decide_eq_true g6
        refine hw_rald hx hb hK hW g5 d_be_withNumber_28 ?_
        exact hw_aret hx hb hr (Or.inl ⟨_, rfl⟩) hlk hW hS (by omega) (by omega) d_be_withNumber_29 hF
  intro H locs ls cells slots hW hS hl hc hs
  have hl : lv_has ls 3 [(0, .ref (L 11 0)), (1, .int a1)] := hl
  unfold F_be_withNumber at hF
  refine lv_iconst (v := 0) hx hb d_be_withNumber_0 (by decide) ?_
  refine lv_istore_n (lv' := [(2, .int 0), (0, .ref (L 11 0)), (1, .int a1)]) hx hb d_be_withNumber_1 rfl hl (by decide) rfl (fun ls hl => ?_)
  exact B2 2000 a1 0 z hF _ _ _ _ _ hW hS (lv_sub hl [1, 2, 0] rfl) (by omega) (by omega)
set_option maxRecDepth 100000 in
set_option maxHeartbeats 4000000 in
theorem c_b_container_ok (l : Launch) (hl0 : l.stackTraces = false) {L : Nat → Nat → Nat} {Ar : Nat → ClassId} {D : va_G} {b0 : Nat} (hLi : f_L L b0) (a1 : Int32) (a2 : Int32)  (z : fST) (r : Int32 ⊕ Nat) (z' : fST) (hF : F_b_container a1 a2 z = some (r, z')) : f_C l y_b_container wt 7 1 L Ar D b0 [.ref (L 0 0), .int a1, .int a2] z (f_oi r) z' := by
  refine f_ofW (cc := c_b_container) (maxL := 4) (ret := (some FieldType.int)) (by decide) w_b_container (Nat.le_of_ble_eq_true rfl) ?_
  intro p e s m args below meth c R hRf hRl hRc hRs hx hb hr hlk hml hno hts hown hK hZ hsz
  intro H locs ls cells slots hW hS hl hc hs
  have hl : lv_has ls 4 [(0, .ref (L 0 0)), (1, .int a1), (2, .int a2)] := hl
  unfold F_b_container at hF
  refine lv_aload_n hx hb d_b_container_0 rfl (lv_at hl 0 rfl) ?_
  refine hw_get (k := 0) (i := 0) (n := 1) (j := 1) (v := .ref (L 11 0)) hx hb hts hown hK hW fl_b_19 rfl (by omega) rfl d_b_container_1 ?_
  refine lv_iload_n hx hb d_b_container_4 rfl (lv_at hl 1 rfl) ?_
  obtain ⟨v1, z1, hc1, hF⟩ := f_bd_some hF
  cases v1 with
  | none =>
    replace hF := f_cz_n hF
    refine hw_VR (k := 11) (i := 0) (nk := 1) (As := [.int a1]) (rest := []) hx hb hml hown hts (c_be_withNumber_ok l hl0 hLi a1  _ _ _ hc1) st_b_213 (by decide) rfl (by omega) rfl rfl hK hZ hsz hS hW rfl hl.1 (Nat.le_of_ble_eq_true rfl) d_b_container_5 (by omega) (by omega) (by omega) (by omega) (fun H locs hW hS => ?_)
    refine lv_astore_nN (lv' := [(3, .null), (0, .ref (L 0 0)), (1, .int a1), (2, .int a2)]) hx hb d_b_container_8 rfl hl (by decide) rfl (fun ls hl => ?_)
    refine lv_aload_nN hx hb d_b_container_9 rfl (lv_at hl 0 rfl) ?_
    refine lv_ifnonnullN hx hb d_b_container_10 ?_
    exact hw_throw (g := f_oi) hl0 hx hb hts hown hlk hml hno hZ hsz rfl tw_b_210_212 hW hS hl.1 d_b_container_13 d_b_container_16 d_b_container_17 d_b_container_20 (by omega) (Nat.le_trans (Nat.le_of_ble_eq_true rfl : _ ≤ 40 * 7) (Nat.le_of_eq hRl.symm)) (by omega) (by omega) (by omega) (by omega) hF
  | some i1 =>
    obtain ⟨hi1, hF⟩ := f_gd_some (f_cz_s hF)
    have hi1 := of_decide_eq_true hi1
    refine hw_VR (k := 11) (i := 0) (nk := 1) (As := [.int a1]) (rest := []) hx hb hml hown hts (c_be_withNumber_ok l hl0 hLi a1  _ _ _ hc1) st_b_213 (by decide) rfl (by omega) rfl rfl hK hZ hsz hS hW rfl hl.1 (Nat.le_of_ble_eq_true rfl) d_b_container_5 (by omega) (by omega) (by omega) (by omega) (fun H locs hW hS => ?_)
    refine lv_astore_n (lv' := [(3, .ref (L 13 i1)), (0, .ref (L 0 0)), (1, .int a1), (2, .int a2)]) hx hb d_b_container_8 rfl hl (by decide) rfl (fun ls hl => ?_)
    refine lv_aload_n hx hb d_b_container_9 rfl (lv_at hl 0 rfl) ?_
    refine lv_ifnonnull (tgt := 21) hx hb d_b_container_10 (by decide) ?_
    refine lv_iload_n hx hb d_b_container_21 rfl (lv_at hl 3 rfl) ?_
    refine lv_topi (fun w2 e3 => ?_)
    rw [← e3] at hF
    by_cases h4 : w2 = 0
    · replace hF := (if_pos h4).symm.trans hF
      subst h4
      refine lv_tableIn (tgt := 64) hx hb d_b_container_22 (by decide) (by decide) rfl (by decide) ?_
      refine lv_aload_n hx hb d_b_container_64 rfl (lv_at hl 0 rfl) ?_
      refine hw_get (k := 13) (i := i1) (n := 16) (j := 4) (v := .int (f_gI z1 13 i1 4)) hx hb hts hown hK hW fl_b_216 rfl (by omega) rfl d_b_container_65 ?_
      exact hw_iretX hx hb hr hlk (vp_nar_int _) hW hS (by omega) (by omega) d_b_container_68 hF
    replace hF := (if_neg h4).symm.trans hF
    by_cases h5 : w2 = 1
    · replace hF := (if_pos h5).symm.trans hF
      subst h5
      refine lv_tableIn (tgt := 69) hx hb d_b_container_22 (by decide) (by decide) rfl (by decide) ?_
      refine lv_aload_n hx hb d_b_container_69 rfl (lv_at hl 0 rfl) ?_
      refine hw_get (k := 13) (i := i1) (n := 16) (j := 3) (v := .int (f_gI z1 13 i1 3)) hx hb hts hown hK hW fl_b_219 rfl (by omega) rfl d_b_container_70 ?_
      exact hw_iretX hx hb hr hlk (vp_nar_int _) hW hS (by omega) (by omega) d_b_container_73 hF
    replace hF := (if_neg h5).symm.trans hF
    by_cases h6 : w2 = 2
    · replace hF := (if_pos h6).symm.trans hF
      subst h6
      refine lv_tableIn (tgt := 74) hx hb d_b_container_22 (by decide) (by decide) rfl (by decide) ?_
      refine lv_aload_n hx hb d_b_container_74 rfl (lv_at hl 0 rfl) ?_
      refine hw_get (k := 13) (i := i1) (n := 16) (j := 6) (v := .int (f_gI z1 13 i1 6)) hx hb hts hown hK hW fl_b_222 rfl (by omega) rfl d_b_container_75 ?_
      exact hw_iretX hx hb hr hlk (vp_nar_int _) hW hS (by omega) (by omega) d_b_container_78 hF
    replace hF := (if_neg h6).symm.trans hF
    by_cases h7 : w2 = 3
    · replace hF := (if_pos h7).symm.trans hF
      subst h7
      refine lv_tableIn (tgt := 79) hx hb d_b_container_22 (by decide) (by decide) rfl (by decide) ?_
      refine lv_aload_n hx hb d_b_container_79 rfl (lv_at hl 0 rfl) ?_
      refine hw_get (k := 13) (i := i1) (n := 16) (j := 7) (v := .int (f_gI z1 13 i1 7)) hx hb hts hown hK hW fl_b_225 rfl (by omega) rfl d_b_container_80 ?_
      exact hw_iretX hx hb hr hlk (vp_nar_int _) hW hS (by omega) (by omega) d_b_container_83 hF
    replace hF := (if_neg h7).symm.trans hF
    by_cases h8 : w2 = 4
    · replace hF := (if_pos h8).symm.trans hF
      subst h8
      refine lv_tableIn (tgt := 84) hx hb d_b_container_22 (by decide) (by decide) rfl (by decide) ?_
      refine lv_aload_n hx hb d_b_container_84 rfl (lv_at hl 0 rfl) ?_
      refine hw_get (k := 13) (i := i1) (n := 16) (j := 8) (v := .int (f_gI z1 13 i1 8)) hx hb hts hown hK hW fl_b_228 rfl (by omega) rfl d_b_container_85 ?_
      obtain ⟨v9, z9, hc9, hF⟩ := f_bd_some hF
      refine hw_SR (As := [.int (f_gI z1 13 i1 8)]) (rest := []) hx hb hml hown hts (c_b_asNumber_ok l hl0 hLi (f_gI z1 13 i1 8)  _ _ _ hc9) st_b_206 hK hZ hsz hS hW rfl hl.1 (Nat.le_of_ble_eq_true rfl) d_b_container_88 (by omega) (by omega) (by omega) (by omega) (fun H locs hW hS => ?_)
      exact hw_iretX hx hb hr hlk (vp_nar_int _) hW hS (by omega) (by omega) d_b_container_91 hF
    replace hF := (if_neg h8).symm.trans hF
    by_cases h10 : w2 = 5
    · replace hF := (if_pos h10).symm.trans hF
      subst h10
      refine lv_tableIn (tgt := 92) hx hb d_b_container_22 (by decide) (by decide) rfl (by decide) ?_
      refine lv_aload_n hx hb d_b_container_92 rfl (lv_at hl 0 rfl) ?_
      refine hw_get (k := 13) (i := i1) (n := 16) (j := 0) (v := .ref (L 14 i1)) hx hb hts hown hK hW fl_b_97 rfl (by omega) rfl d_b_container_93 ?_
      refine hw_get (k := 14) (i := i1) (n := 32) (j := 1) (v := .int (f_gI z1 14 i1 1)) hx hb hts hown hK hW fl_b_231 rfl (by omega) rfl d_b_container_96 ?_
      exact hw_iretX hx hb hr hlk (vp_nar_int _) hW hS (by omega) (by omega) d_b_container_99 hF
    replace hF := (if_neg h10).symm.trans hF
    by_cases h11 : w2 = 6
    · replace hF := (if_pos h11).symm.trans hF
      subst h11
      refine lv_tableIn (tgt := 100) hx hb d_b_container_22 (by decide) (by decide) rfl (by decide) ?_
      refine lv_aload_n hx hb d_b_container_100 rfl (lv_at hl 0 rfl) ?_
      refine hw_get (k := 13) (i := i1) (n := 16) (j := 1) (v := .ref (L 14 (i1 + 16))) hx hb hts hown hK hW fl_b_109 rfl (by omega) rfl d_b_container_101 ?_
      refine hw_get (k := 14) (i := i1 + 16) (n := 32) (j := 1) (v := .int (f_gI z1 14 (i1 + 16) 1)) hx hb hts hown hK hW fl_b_231 rfl (by omega) rfl d_b_container_104 ?_
      exact hw_iretX hx hb hr hlk (vp_nar_int _) hW hS (by omega) (by omega) d_b_container_107 hF
    replace hF := (if_neg h11).symm.trans hF
    refine f_swd (x := w2) (hi := 6) (tgt := 108) hx hb d_b_container_22 (by decide) (fun k hk => by rcases (show k = 0 ∨ k = 1 ∨ k = 2 ∨ k = 3 ∨ k = 4 ∨ k = 5 ∨ k = 6 by omega) with rfl | rfl | rfl | rfl | rfl | rfl | rfl <;> first | exact Or.inr rfl | exact Or.inl h4 | exact Or.inl h5 | exact Or.inl h6 | exact Or.inl h7 | exact Or.inl h8 | exact Or.inl h10 | exact Or.inl h11) (by decide) ?_
    exact hw_throw (g := f_oi) hl0 hx hb hts hown hlk hml hno hZ hsz rfl tw_b_210_212 hW hS hl.1 d_b_container_108 d_b_container_111 d_b_container_112 d_b_container_115 (by omega) (Nat.le_trans (Nat.le_of_ble_eq_true rfl : _ ≤ 40 * 7) (Nat.le_of_eq hRl.symm)) (by omega) (by omega) (by omega) (by omega) hF
set_option maxRecDepth 100000 in
set_option maxHeartbeats 4000000 in
theorem c_b_belt_ok (l : Launch) (hl0 : l.stackTraces = false) {L : Nat → Nat → Nat} {Ar : Nat → ClassId} {D : va_G} {b0 : Nat} (hLi : f_L L b0) (a1 : Int32)  (z : fST) (r : Int32) (z' : fST) (hF : F_b_belt a1 z = some (r, z')) : f_C l y_b_belt wt 2 0 L Ar D b0 [.ref (L 0 0), .int a1] z (.inl (some (.int r))) z' := by
  refine f_ofW (cc := c_b_belt) (maxL := 2) (ret := (some FieldType.int)) (by decide) w_b_belt (Nat.le_of_ble_eq_true rfl) ?_
  intro p e s m args below meth c R hRf hRl hRc hRs hx hb hr hlk hml hno hts hown hK hZ hsz
  intro H locs ls cells slots hW hS hl hc hs
  have hl : lv_has ls 2 [(0, .ref (L 0 0)), (1, .int a1)] := hl
  unfold F_b_belt at hF
  refine lv_iload_n hx hb d_b_belt_0 rfl (lv_at hl 1 rfl) ?_
  refine lv_aload_n hx hb d_b_belt_1 rfl (lv_at hl 0 rfl) ?_
  refine hw_get (k := 0) (i := 0) (n := 1) (j := 1) (v := .ref (L 11 0)) hx hb hts hown hK hW fl_b_19 rfl (by omega) rfl d_b_belt_2 ?_
  refine hw_get (k := 11) (i := 0) (n := 1) (j := 1) (v := .int (f_gI z 11 0 1)) hx hb hts hown hK hW fl_b_127 rfl (by omega) rfl d_b_belt_5 ?_
  obtain ⟨v1, z1, hc1, hF⟩ := f_bd_some hF
  refine hw_SR (As := [.int a1, .int (f_gI z 11 0 1)]) (rest := []) hx hb hml hown hts (c_b_isIndex_ok l hl0 hLi a1 (f_gI z 11 0 1)  _ _ _ hc1) st_b_58 hK hZ hsz hS hW rfl hl.1 (Nat.le_of_ble_eq_true rfl) d_b_belt_8 (by omega) (by omega) (by omega) (by omega) (fun H locs hW hS => ?_)
  refine lv_if_eq (tgt := 29) hx hb d_b_belt_11 (by decide) (fun h2 => ?_) (fun h2 => ?_)
  · replace hF := (if_pos h2).symm.trans hF
    refine lv_iconst (v := (-1)) hx hb d_b_belt_29 (by decide) ?_
    exact hw_iret hx hb hr hlk (vp_nar_int _) hW hS (by omega) (by omega) d_b_belt_30 hF
  · replace hF := (if_neg h2).symm.trans hF
    refine lv_aload_n hx hb d_b_belt_14 rfl (lv_at hl 0 rfl) ?_
    refine hw_get (k := 0) (i := 0) (n := 1) (j := 1) (v := .ref (L 11 0)) hx hb hts hown hK hW fl_b_19 rfl (by omega) rfl d_b_belt_15 ?_
    refine hw_get (k := 11) (i := 0) (n := 1) (j := 0) (v := .ref (L 12 0)) hx hb hts hown hK hW fl_b_232 rfl (by omega) rfl d_b_belt_18 ?_
    refine lv_iload_n hx hb d_b_belt_21 rfl (lv_at hl 1 rfl) ?_
    obtain ⟨g3, hF⟩ := f_gd_some hF
    obtain ⟨g4, hF⟩ := f_gd_some hF
    have g4 := of_decide_eq_true g4
    refine hw_rald hx hb hK hW g3 d_b_belt_22 ?_
    refine hw_get (k := 13) (i := f_gR z1 (f_ix a1)) (n := 16) (j := 2) (v := .int (f_gI z1 13 (f_gR z1 (f_ix a1)) 2)) hx hb hts hown hK hW fl_b_236 rfl (by omega) rfl d_b_belt_23 ?_
    refine lv_goto (tgt := 30) hx hb d_b_belt_26 (by decide) ?_
    exact hw_iret hx hb hr hlk (vp_nar_int _) hW hS (by omega) (by omega) d_b_belt_30 hF
set_option maxRecDepth 100000 in
set_option maxHeartbeats 4000000 in
theorem c_b_bin_ok (l : Launch) (hl0 : l.stackTraces = false) {L : Nat → Nat → Nat} {Ar : Nat → ClassId} {D : va_G} {b0 : Nat} (hLi : f_L L b0) (a1 : Int32) (a2 : Int32)  (z : fST) (r : Int32 ⊕ Nat) (z' : fST) (hF : F_b_bin a1 a2 z = some (r, z')) : f_C l y_b_bin wt 8 2 L Ar D b0 [.ref (L 0 0), .int a1, .int a2] z (f_oi r) z' := by
  refine f_ofW (cc := c_b_bin) (maxL := 3) (ret := (some FieldType.int)) (by decide) w_b_bin (Nat.le_of_ble_eq_true rfl) ?_
  intro p e s m args below meth c R hRf hRl hRc hRs hx hb hr hlk hml hno hts hown hK hZ hsz
  intro H locs ls cells slots hW hS hl hc hs
  have hl : lv_has ls 3 [(0, .ref (L 0 0)), (1, .int a1), (2, .int a2)] := hl
  unfold F_b_bin at hF
  refine lv_iload_n hx hb d_b_bin_0 rfl (lv_at hl 1 rfl) ?_
  refine lv_iconst (v := 3) hx hb d_b_bin_1 (by decide) ?_
  obtain ⟨v1, z1, hc1, hF⟩ := f_bd_some hF
  refine hw_SR (As := [.int a1, .int 3]) (rest := []) hx hb hml hown hts (c_b_isIndex_ok l hl0 hLi a1 3  _ _ _ hc1) st_b_58 hK hZ hsz hS hW rfl hl.1 (Nat.le_of_ble_eq_true rfl) d_b_bin_2 (by omega) (by omega) (by omega) (by omega) (fun H locs hW hS => ?_)
  rcases f_bx_some hF with ⟨v2, z2, hc2, hF⟩ | ⟨v2, z2, hc2, hF⟩
  · skip
    refine hw_SR (As := [.int v1]) (rest := []) hx hb hml hown hts (c_b_require_ok l hl0 hLi v1  _ _ _ hc2) st_b_62 hK hZ hsz hS hW rfl hl.1 (Nat.le_of_ble_eq_true rfl) d_b_bin_5 (by omega) (by omega) (by omega) (by omega) (fun H locs hW hS => ?_)
    refine lv_iload_n hx hb d_b_bin_8 rfl (lv_at hl 2 rfl) ?_
    refine lv_iconst (v := 0) hx hb d_b_bin_9 (by decide) ?_
    refine lv_iconst (v := 1) hx hb d_b_bin_10 (by decide) ?_
    obtain ⟨v3, z3, hc3, hF⟩ := f_bd_some hF
    refine hw_SR (As := [.int a2, .int 0, .int 1]) (rest := []) hx hb hml hown hts (c_b_isWithin_ok l hl0 hLi a2 0 1  _ _ _ hc3) st_b_66 hK hZ hsz hS hW rfl hl.1 (Nat.le_of_ble_eq_true rfl) d_b_bin_11 (by omega) (by omega) (by omega) (by omega) (fun H locs hW hS => ?_)
    rcases f_bx_some hF with ⟨v4, z4, hc4, hF⟩ | ⟨v4, z4, hc4, hF⟩
    · skip
      refine hw_SR (As := [.int v3]) (rest := []) hx hb hml hown hts (c_b_require_ok l hl0 hLi v3  _ _ _ hc4) st_b_62 hK hZ hsz hS hW rfl hl.1 (Nat.le_of_ble_eq_true rfl) d_b_bin_14 (by omega) (by omega) (by omega) (by omega) (fun H locs hW hS => ?_)
      refine lv_iload_n hx hb d_b_bin_17 rfl (lv_at hl 2 rfl) ?_
      refine lv_if_ne (tgt := 33) hx hb d_b_bin_18 (by decide) (fun h5 => ?_) (fun h5 => ?_)
      · replace hF := (if_neg h5).symm.trans hF
        refine lv_aload_n hx hb d_b_bin_33 rfl (lv_at hl 0 rfl) ?_
        refine hw_get (k := 0) (i := 0) (n := 1) (j := 2) (v := .ref (L 16 0)) hx hb hts hown hK hW fl_b_26 rfl (by omega) rfl d_b_bin_34 ?_
        refine hw_get (k := 16) (i := 0) (n := 1) (j := 1) (v := .ref (L 18 0)) hx hb hts hown hK hW fl_b_167 rfl (by omega) rfl d_b_bin_37 ?_
        refine lv_iload_n hx hb d_b_bin_40 rfl (lv_at hl 1 rfl) ?_
        obtain ⟨g6, hF⟩ := f_gd_some hF
        refine hw_iald (k := 18) (i := 0) (n := 1) hx hb hK hW (by decide) rfl (by omega) rfl g6 d_b_bin_41 ?_
        exact hw_iretX hx hb hr hlk (vp_nar_int _) hW hS (by omega) (by omega) d_b_bin_42 hF
      · replace hF := (if_pos h5).symm.trans hF
        refine lv_aload_n hx hb d_b_bin_21 rfl (lv_at hl 0 rfl) ?_
        refine hw_get (k := 0) (i := 0) (n := 1) (j := 2) (v := .ref (L 16 0)) hx hb hts hown hK hW fl_b_26 rfl (by omega) rfl d_b_bin_22 ?_
        refine hw_get (k := 16) (i := 0) (n := 1) (j := 0) (v := .ref (L 17 0)) hx hb hts hown hK hW fl_b_164 rfl (by omega) rfl d_b_bin_25 ?_
        refine lv_iload_n hx hb d_b_bin_28 rfl (lv_at hl 1 rfl) ?_
        obtain ⟨g7, hF⟩ := f_gd_some hF
        refine hw_iald (k := 17) (i := 0) (n := 1) hx hb hK hW (by decide) rfl (by omega) rfl g7 d_b_bin_29 ?_
        refine lv_goto (tgt := 42) hx hb d_b_bin_30 (by decide) ?_
        exact hw_iretX hx hb hr hlk (vp_nar_int _) hW hS (by omega) (by omega) d_b_bin_42 hF
    · cases hF
      exact hw_SX (As := [.int v3]) (rest := []) hx hb hml hown hts (c_b_require_ok l hl0 hLi v3  _ _ _ hc4) st_b_62 hK hZ hsz hS hW rfl hl.1 (Nat.le_of_ble_eq_true rfl) d_b_bin_14 (by omega) (by omega) (by omega) (by omega) (fun q ce H locs hW hS hq hv hcl => hw_out (fun x hx => (hno x hx).elim) hlk hW hS hq hv hcl (by omega) (by omega))
  · cases hF
    exact hw_SX (As := [.int v1]) (rest := []) hx hb hml hown hts (c_b_require_ok l hl0 hLi v1  _ _ _ hc2) st_b_62 hK hZ hsz hS hW rfl hl.1 (Nat.le_of_ble_eq_true rfl) d_b_bin_5 (by omega) (by omega) (by omega) (by omega) (fun q ce H locs hW hS hq hv hcl => hw_out (fun x hx => (hno x hx).elim) hlk hW hS hq hv hcl (by omega) (by omega))
set_option maxRecDepth 100000 in
set_option maxHeartbeats 4000000 in
theorem c_b_total_ok (l : Launch) (hl0 : l.stackTraces = false) {L : Nat → Nat → Nat} {Ar : Nat → ClassId} {D : va_G} {b0 : Nat} (hLi : f_L L b0) (a1 : Int32)  (z : fST) (r : Int32 ⊕ Nat) (z' : fST) (hF : F_b_total a1 z = some (r, z')) : f_C l y_b_total wt 7 1 L Ar D b0 [.ref (L 0 0), .int a1] z (f_oi r) z' := by
  refine f_ofW (cc := c_b_total) (maxL := 2) (ret := (some FieldType.int)) (by decide) w_b_total (Nat.le_of_ble_eq_true rfl) ?_
  intro p e s m args below meth c R hRf hRl hRc hRs hx hb hr hlk hml hno hts hown hK hZ hsz
  intro H locs ls cells slots hW hS hl hc hs
  have hl : lv_has ls 2 [(0, .ref (L 0 0)), (1, .int a1)] := hl
  unfold F_b_total at hF
  refine lv_iload_n hx hb d_b_total_0 rfl (lv_at hl 1 rfl) ?_
  refine lv_iconst (v := 1) hx hb d_b_total_1 (by decide) ?_
  refine lv_bipush (v := 9) hx hb d_b_total_2 (by decide) ?_
  obtain ⟨v1, z1, hc1, hF⟩ := f_bd_some hF
  refine hw_SR (As := [.int a1, .int 1, .int 9]) (rest := []) hx hb hml hown hts (c_b_isWithin_ok l hl0 hLi a1 1 9  _ _ _ hc1) st_b_66 hK hZ hsz hS hW rfl hl.1 (Nat.le_of_ble_eq_true rfl) d_b_total_4 (by omega) (by omega) (by omega) (by omega) (fun H locs hW hS => ?_)
  refine lv_if_eq (tgt := 17) hx hb d_b_total_7 (by decide) (fun h2 => ?_) (fun h2 => ?_)
  · replace hF := (if_pos h2).symm.trans hF
    refine lv_iload_n hx hb d_b_total_17 rfl (lv_at hl 1 rfl) ?_
    refine lv_topi (fun w3 e4 => ?_)
    rw [← e4] at hF
    by_cases h5 : w3 = 0
    · replace hF := (if_pos h5).symm.trans hF
      subst h5
      refine lv_tableIn (tgt := 116) hx hb d_b_total_18 (by decide) (by decide) rfl (by decide) ?_
      refine lv_aload_n hx hb d_b_total_116 rfl (lv_at hl 0 rfl) ?_
      refine hw_get (k := 0) (i := 0) (n := 1) (j := 7) (v := .int (f_gI z1 0 0 7)) hx hb hts hown hK hW fl_b_136 rfl (by omega) rfl d_b_total_117 ?_
      exact hw_iretX hx hb hr hlk (vp_nar_int _) hW hS (by omega) (by omega) d_b_total_120 hF
    replace hF := (if_neg h5).symm.trans hF
    by_cases h6 : w3 = 10
    · replace hF := (if_pos h6).symm.trans hF
      subst h6
      refine lv_tableIn (tgt := 121) hx hb d_b_total_18 (by decide) (by decide) rfl (by decide) ?_
      refine lv_aload_n hx hb d_b_total_121 rfl (lv_at hl 0 rfl) ?_
      refine hw_get (k := 0) (i := 0) (n := 1) (j := 8) (v := .int (f_gI z1 0 0 8)) hx hb hts hown hK hW fl_b_239 rfl (by omega) rfl d_b_total_122 ?_
      exact hw_iretX hx hb hr hlk (vp_nar_int _) hW hS (by omega) (by omega) d_b_total_125 hF
    replace hF := (if_neg h6).symm.trans hF
    by_cases h7 : w3 = 11
    · replace hF := (if_pos h7).symm.trans hF
      subst h7
      refine lv_tableIn (tgt := 126) hx hb d_b_total_18 (by decide) (by decide) rfl (by decide) ?_
      refine lv_aload_n hx hb d_b_total_126 rfl (lv_at hl 0 rfl) ?_
      refine hw_get (k := 0) (i := 0) (n := 1) (j := 9) (v := .int (f_gI z1 0 0 9)) hx hb hts hown hK hW fl_b_242 rfl (by omega) rfl d_b_total_127 ?_
      exact hw_iretX hx hb hr hlk (vp_nar_int _) hW hS (by omega) (by omega) d_b_total_130 hF
    replace hF := (if_neg h7).symm.trans hF
    by_cases h8 : w3 = 12
    · replace hF := (if_pos h8).symm.trans hF
      subst h8
      refine lv_tableIn (tgt := 131) hx hb d_b_total_18 (by decide) (by decide) rfl (by decide) ?_
      refine lv_aload_n hx hb d_b_total_131 rfl (lv_at hl 0 rfl) ?_
      refine hw_get (k := 0) (i := 0) (n := 1) (j := 3) (v := .ref (L 19 0)) hx hb hts hown hK hW fl_b_33 rfl (by omega) rfl d_b_total_132 ?_
      refine hw_get (k := 19) (i := 0) (n := 1) (j := 5) (v := .int (f_gI z1 19 0 5)) hx hb hts hown hK hW fl_b_245 rfl (by omega) rfl d_b_total_135 ?_
      exact hw_iretX hx hb hr hlk (vp_nar_int _) hW hS (by omega) (by omega) d_b_total_138 hF
    replace hF := (if_neg h8).symm.trans hF
    by_cases h9 : w3 = 13
    · replace hF := (if_pos h9).symm.trans hF
      subst h9
      refine lv_tableIn (tgt := 139) hx hb d_b_total_18 (by decide) (by decide) rfl (by decide) ?_
      refine lv_aload_n hx hb d_b_total_139 rfl (lv_at hl 0 rfl) ?_
      refine hw_get (k := 0) (i := 0) (n := 1) (j := 10) (v := .int (f_gI z1 0 0 10)) hx hb hts hown hK hW fl_b_148 rfl (by omega) rfl d_b_total_140 ?_
      exact hw_iretX hx hb hr hlk (vp_nar_int _) hW hS (by omega) (by omega) d_b_total_143 hF
    replace hF := (if_neg h9).symm.trans hF
    by_cases h10 : w3 = 14
    · replace hF := (if_pos h10).symm.trans hF
      subst h10
      refine lv_tableIn (tgt := 144) hx hb d_b_total_18 (by decide) (by decide) rfl (by decide) ?_
      refine lv_aload_n hx hb d_b_total_144 rfl (lv_at hl 0 rfl) ?_
      refine hw_get (k := 0) (i := 0) (n := 1) (j := 3) (v := .ref (L 19 0)) hx hb hts hown hK hW fl_b_33 rfl (by omega) rfl d_b_total_145 ?_
      refine hw_get (k := 19) (i := 0) (n := 1) (j := 3) (v := .int (f_gI z1 19 0 3)) hx hb hts hown hK hW fl_b_154 rfl (by omega) rfl d_b_total_148 ?_
      exact hw_iretX hx hb hr hlk (vp_nar_int _) hW hS (by omega) (by omega) d_b_total_151 hF
    replace hF := (if_neg h10).symm.trans hF
    by_cases h11 : w3 = 15
    · replace hF := (if_pos h11).symm.trans hF
      subst h11
      refine lv_tableIn (tgt := 152) hx hb d_b_total_18 (by decide) (by decide) rfl (by decide) ?_
      refine lv_aload_n hx hb d_b_total_152 rfl (lv_at hl 0 rfl) ?_
      refine hw_get (k := 0) (i := 0) (n := 1) (j := 1) (v := .ref (L 11 0)) hx hb hts hown hK hW fl_b_19 rfl (by omega) rfl d_b_total_153 ?_
      refine hw_get (k := 11) (i := 0) (n := 1) (j := 1) (v := .int (f_gI z1 11 0 1)) hx hb hts hown hK hW fl_b_127 rfl (by omega) rfl d_b_total_156 ?_
      exact hw_iretX hx hb hr hlk (vp_nar_int _) hW hS (by omega) (by omega) d_b_total_159 hF
    replace hF := (if_neg h11).symm.trans hF
    by_cases h12 : w3 = 16
    · replace hF := (if_pos h12).symm.trans hF
      subst h12
      refine lv_tableIn (tgt := 160) hx hb d_b_total_18 (by decide) (by decide) rfl (by decide) ?_
      refine lv_aload_n hx hb d_b_total_160 rfl (lv_at hl 0 rfl) ?_
      refine hw_get (k := 0) (i := 0) (n := 1) (j := 4) (v := .ref (L 23 0)) hx hb hts hown hK hW fl_b_40 rfl (by omega) rfl d_b_total_161 ?_
      refine hw_get (k := 23) (i := 0) (n := 1) (j := 2) (v := .int (f_gI z1 23 0 2)) hx hb hts hown hK hW fl_b_116 rfl (by omega) rfl d_b_total_164 ?_
      obtain ⟨v13, z13, hc13, hF⟩ := f_bd_some hF
      refine hw_SR (As := [.int (f_gI z1 23 0 2)]) (rest := []) hx hb hml hown hts (c_b_asNumber_ok l hl0 hLi (f_gI z1 23 0 2)  _ _ _ hc13) st_b_206 hK hZ hsz hS hW rfl hl.1 (Nat.le_of_ble_eq_true rfl) d_b_total_167 (by omega) (by omega) (by omega) (by omega) (fun H locs hW hS => ?_)
      exact hw_iretX hx hb hr hlk (vp_nar_int _) hW hS (by omega) (by omega) d_b_total_170 hF
    replace hF := (if_neg h12).symm.trans hF
    by_cases h14 : w3 = 17
    · replace hF := (if_pos h14).symm.trans hF
      subst h14
      refine lv_tableIn (tgt := 171) hx hb d_b_total_18 (by decide) (by decide) rfl (by decide) ?_
      refine lv_aload_n hx hb d_b_total_171 rfl (lv_at hl 0 rfl) ?_
      refine hw_get (k := 0) (i := 0) (n := 1) (j := 1) (v := .ref (L 11 0)) hx hb hts hown hK hW fl_b_19 rfl (by omega) rfl d_b_total_172 ?_
      obtain ⟨v15, z15, hc15, hF⟩ := f_bd_some hF
      refine hw_VR (k := 11) (i := 0) (nk := 1) (As := []) (rest := []) hx hb hml hown hts (c_be_isBlocked_ok l hl0 hLi   _ _ _ hc15) st_b_120 (by decide) rfl (by omega) rfl rfl hK hZ hsz hS hW rfl hl.1 (Nat.le_of_ble_eq_true rfl) d_b_total_175 (by omega) (by omega) (by omega) (by omega) (fun H locs hW hS => ?_)
      obtain ⟨v16, z16, hc16, hF⟩ := f_bd_some hF
      refine hw_SR (As := [.int v15]) (rest := []) hx hb hml hown hts (c_b_asNumber_ok l hl0 hLi v15  _ _ _ hc16) st_b_206 hK hZ hsz hS hW rfl hl.1 (Nat.le_of_ble_eq_true rfl) d_b_total_178 (by omega) (by omega) (by omega) (by omega) (fun H locs hW hS => ?_)
      exact hw_iretX hx hb hr hlk (vp_nar_int _) hW hS (by omega) (by omega) d_b_total_181 hF
    replace hF := (if_neg h14).symm.trans hF
    by_cases h17 : w3 = 18
    · replace hF := (if_pos h17).symm.trans hF
      subst h17
      refine lv_tableIn (tgt := 182) hx hb d_b_total_18 (by decide) (by decide) rfl (by decide) ?_
      refine lv_aload_n hx hb d_b_total_182 rfl (lv_at hl 0 rfl) ?_
      obtain ⟨v18, z18, hc18, hF⟩ := f_bd_some hF
      refine hw_VR (k := 0) (i := 0) (nk := 1) (As := []) (rest := []) hx hb hml hown hts (c_b_isSuspicious_ok l hl0 hLi   _ _ _ hc18) st_b_170 (by decide) rfl (by omega) rfl rfl hK hZ hsz hS hW rfl hl.1 (Nat.le_of_ble_eq_true rfl) d_b_total_183 (by omega) (by omega) (by omega) (by omega) (fun H locs hW hS => ?_)
      obtain ⟨v19, z19, hc19, hF⟩ := f_bd_some hF
      refine hw_SR (As := [.int v18]) (rest := []) hx hb hml hown hts (c_b_asNumber_ok l hl0 hLi v18  _ _ _ hc19) st_b_206 hK hZ hsz hS hW rfl hl.1 (Nat.le_of_ble_eq_true rfl) d_b_total_186 (by omega) (by omega) (by omega) (by omega) (fun H locs hW hS => ?_)
      exact hw_iretX hx hb hr hlk (vp_nar_int _) hW hS (by omega) (by omega) d_b_total_189 hF
    replace hF := (if_neg h17).symm.trans hF
    by_cases h20 : w3 = 19
    · replace hF := (if_pos h20).symm.trans hF
      subst h20
      refine lv_tableIn (tgt := 190) hx hb d_b_total_18 (by decide) (by decide) rfl (by decide) ?_
      refine lv_aload_n hx hb d_b_total_190 rfl (lv_at hl 0 rfl) ?_
      refine hw_get (k := 0) (i := 0) (n := 1) (j := 4) (v := .ref (L 23 0)) hx hb hts hown hK hW fl_b_40 rfl (by omega) rfl d_b_total_191 ?_
      refine hw_get (k := 23) (i := 0) (n := 1) (j := 0) (v := .int (f_gI z1 23 0 0)) hx hb hts hown hK hW fl_b_176 rfl (by omega) rfl d_b_total_194 ?_
      exact hw_iretX hx hb hr hlk (vp_nar_int _) hW hS (by omega) (by omega) d_b_total_197 hF
    replace hF := (if_neg h20).symm.trans hF
    by_cases h21 : w3 = 20
    · replace hF := (if_pos h21).symm.trans hF
      subst h21
      refine lv_tableIn (tgt := 198) hx hb d_b_total_18 (by decide) (by decide) rfl (by decide) ?_
      refine lv_aload_n hx hb d_b_total_198 rfl (lv_at hl 0 rfl) ?_
      refine hw_get (k := 0) (i := 0) (n := 1) (j := 4) (v := .ref (L 23 0)) hx hb hts hown hK hW fl_b_40 rfl (by omega) rfl d_b_total_199 ?_
      refine hw_get (k := 23) (i := 0) (n := 1) (j := 1) (v := .int (f_gI z1 23 0 1)) hx hb hts hown hK hW fl_b_173 rfl (by omega) rfl d_b_total_202 ?_
      exact hw_iretX hx hb hr hlk (vp_nar_int _) hW hS (by omega) (by omega) d_b_total_205 hF
    replace hF := (if_neg h21).symm.trans hF
    refine f_swd (x := w3) (hi := 20) (tgt := 206) hx hb d_b_total_18 (by decide) (fun k hk => by rcases (show k = 0 ∨ k = 1 ∨ k = 2 ∨ k = 3 ∨ k = 4 ∨ k = 5 ∨ k = 6 ∨ k = 7 ∨ k = 8 ∨ k = 9 ∨ k = 10 ∨ k = 11 ∨ k = 12 ∨ k = 13 ∨ k = 14 ∨ k = 15 ∨ k = 16 ∨ k = 17 ∨ k = 18 ∨ k = 19 ∨ k = 20 by omega) with rfl | rfl | rfl | rfl | rfl | rfl | rfl | rfl | rfl | rfl | rfl | rfl | rfl | rfl | rfl | rfl | rfl | rfl | rfl | rfl | rfl <;> first | exact Or.inr rfl | exact Or.inl h5 | exact Or.inl h6 | exact Or.inl h7 | exact Or.inl h8 | exact Or.inl h9 | exact Or.inl h10 | exact Or.inl h11 | exact Or.inl h12 | exact Or.inl h14 | exact Or.inl h17 | exact Or.inl h20 | exact Or.inl h21) (by decide) ?_
    exact hw_throw (g := f_oi) hl0 hx hb hts hown hlk hml hno hZ hsz rfl tw_b_210_212 hW hS hl.1 d_b_total_206 d_b_total_209 d_b_total_210 d_b_total_213 (by omega) (Nat.le_trans (Nat.le_of_ble_eq_true rfl : _ ≤ 40 * 7) (Nat.le_of_eq hRl.symm)) (by omega) (by omega) (by omega) (by omega) hF
  · replace hF := (if_neg h2).symm.trans hF
    refine lv_aload_n hx hb d_b_total_10 rfl (lv_at hl 0 rfl) ?_
    refine hw_get (k := 0) (i := 0) (n := 1) (j := 6) (v := .ref (L 26 0)) hx hb hts hown hK hW fl_b_51 rfl (by omega) rfl d_b_total_11 ?_
    refine lv_iload_n hx hb d_b_total_14 rfl (lv_at hl 1 rfl) ?_
    obtain ⟨g22, hF⟩ := f_gd_some hF
    refine hw_iald (k := 26) (i := 0) (n := 1) hx hb hK hW (by decide) rfl (by omega) rfl g22 d_b_total_15 ?_
    exact hw_iretX hx hb hr hlk (vp_nar_int _) hW hS (by omega) (by omega) d_b_total_16 hF
