/-! contracts: the method does what its pure function says -/
set_option maxRecDepth 100000 in
set_option maxHeartbeats 4000000 in
theorem c_vo_isFull_ok (l : Launch) (hl0 : l.stackTraces = false) {L : Nat → Nat → Nat} {Ar : Nat → ClassId} {D : va_G} {b0 : Nat} (hLi : f_L L b0)   (z : fST) (r : Int32) (z' : fST) (hF : F_vo_isFull  z = some (r, z')) : f_C l y_vo_isFull wt 1 0 L Ar D b0 [.ref (L 19 0)] z (.inl (some (.int r))) z' := by
  refine f_ofW (cc := c_vo_isFull) (maxL := 1) (ret := (some FieldType.boolean)) (by decide) w_vo_isFull (Nat.le_of_ble_eq_true rfl) ?_
  intro p e s m args below meth c R hRf hRl hRc hRs hx hb hr hlk hml hno hts hown hK hZ hsz
  intro H locs ls cells slots hW hS hl hc hs
  have hl : lv_has ls 1 [(0, .ref (L 19 0))] := hl
  unfold F_vo_isFull at hF
  refine lv_aload_n hx hb d_vo_isFull_0 rfl (lv_at hl 0 rfl) ?_
  refine hw_get (k := 19) (i := 0) (n := 1) (j := 3) (v := .int (f_gI z 19 0 3)) hx hb hts hown hK hW fl_vo_22 rfl (by omega) rfl d_vo_isFull_1 ?_
  refine lv_bipush (v := 60) hx hb d_vo_isFull_4 (by decide) ?_
  refine lv_icmp_lt (tgt := 13) hx hb d_vo_isFull_6 (by decide) (fun h1 => ?_) (fun h1 => ?_)
  · replace hF := (if_pos h1).symm.trans hF
    refine lv_iconst (v := 0) hx hb d_vo_isFull_13 (by decide) ?_
    exact hw_iret hx hb hr hlk (f_nZ (Or.inl rfl)) hW hS (by omega) (by omega) d_vo_isFull_14 hF
  · replace hF := (if_neg h1).symm.trans hF
    refine lv_iconst (v := 1) hx hb d_vo_isFull_9 (by decide) ?_
    refine lv_goto (tgt := 14) hx hb d_vo_isFull_10 (by decide) ?_
    exact hw_iret hx hb hr hlk (f_nZ (Or.inr rfl)) hW hS (by omega) (by omega) d_vo_isFull_14 hF
set_option maxRecDepth 100000 in
set_option maxHeartbeats 4000000 in
theorem c_b_isSuspicious_ok (l : Launch) (hl0 : l.stackTraces = false) {L : Nat → Nat → Nat} {Ar : Nat → ClassId} {D : va_G} {b0 : Nat} (hLi : f_L L b0)   (z : fST) (r : Int32) (z' : fST) (hF : F_b_isSuspicious  z = some (r, z')) : f_C l y_b_isSuspicious wt 1 0 L Ar D b0 [.ref (L 0 0)] z (.inl (some (.int r))) z' := by
  refine f_ofW (cc := c_b_isSuspicious) (maxL := 1) (ret := (some FieldType.boolean)) (by decide) w_b_isSuspicious (Nat.le_of_ble_eq_true rfl) ?_
  intro p e s m args below meth c R hRf hRl hRc hRs hx hb hr hlk hml hno hts hown hK hZ hsz
  intro H locs ls cells slots hW hS hl hc hs
  have hl : lv_has ls 1 [(0, .ref (L 0 0))] := hl
  unfold F_b_isSuspicious at hF
  refine lv_aload_n hx hb d_b_isSuspicious_0 rfl (lv_at hl 0 rfl) ?_
  refine hw_get (k := 0) (i := 0) (n := 1) (j := 11) (v := .int (f_gI z 0 0 11)) hx hb hts hown hK hW fl_b_133 rfl (by omega) rfl d_b_isSuspicious_1 ?_
  refine lv_bipush (v := 50) hx hb d_b_isSuspicious_4 (by decide) ?_
  refine lv_icmp_le (tgt := 13) hx hb d_b_isSuspicious_6 (by decide) (fun h1 => ?_) (fun h1 => ?_)
  · replace hF := (if_pos h1).symm.trans hF
    refine lv_iconst (v := 0) hx hb d_b_isSuspicious_13 (by decide) ?_
    exact hw_iret hx hb hr hlk (f_nZ (Or.inl rfl)) hW hS (by omega) (by omega) d_b_isSuspicious_14 hF
  · replace hF := (if_neg h1).symm.trans hF
    refine lv_iconst (v := 1) hx hb d_b_isSuspicious_9 (by decide) ?_
    refine lv_goto (tgt := 14) hx hb d_b_isSuspicious_10 (by decide) ?_
    exact hw_iret hx hb hr hlk (f_nZ (Or.inr rfl)) hW hS (by omega) (by omega) d_b_isSuspicious_14 hF
set_option maxRecDepth 100000 in
set_option maxHeartbeats 4000000 in
theorem c_la_isLike_ok (l : Launch) (hl0 : l.stackTraces = false) {L : Nat → Nat → Nat} {Ar : Nat → ClassId} {D : va_G} {b0 : Nat} (hLi : f_L L b0) (a1 : Nat) (h_a1 : a1 < 32) (z : fST) (r : Int32) (z' : fST) (hF : F_la_isLike a1 z = some (r, z')) : f_C l y_la_isLike wt 1 0 L Ar D b0 [.ref (L 24 0), .ref (L 14 a1)] z (.inl (some (.int r))) z' := by
  refine f_ofW (cc := c_la_isLike) (maxL := 3) (ret := (some FieldType.boolean)) (by decide) w_la_isLike (Nat.le_of_ble_eq_true rfl) ?_
  intro p e s m args below meth c R hRf hRl hRc hRs hx hb hr hlk hml hno hts hown hK hZ hsz
  have B2 : ∀  (n : Nat) (x1 : Nat) (x2 : Int32) (z : fST), f_it (b_la_isLike_2 ) n (x1, x2, z) = some (r, z') → x1 < 32 → f_B p l e R s m args below meth c L Ar D b0 3 0 (f_E below args s L Ar D b0 0 (.inl (some (.int r))) z') 0 2 [(0, .ref (L 24 0)), (1, .ref (L 14 x1)), (2, .int x2)] [] z := by
    intro  n
    induction n with
    | zero => intro x1 x2 z hF; cases hF
    | succ n ih =>
    intro x1 x2 z hF h_x1 H locs ls cells slots hW hS hl hc hs
    replace hF := f_it_s hF
    have K2 : ∀ (x1 : Nat) (x2 : Int32) (z : fST), f_it (b_la_isLike_2 ) n (x1, x2, z) = some (r, z') → x1 < 32 → f_B p l e R s m args below meth c L Ar D b0 3 0 (f_E below args s L Ar D b0 0 (.inl (some (.int r))) z') 0 2 [(0, .ref (L 24 0)), (1, .ref (L 14 x1)), (2, .int x2)] [] z := fun x1 x2 z hF => ih x1 x2 z hF
    generalize f_it (b_la_isLike_2 ) n = k2 at hF K2
    unfold b_la_isLike_2 at hF
    dsimp only at hF
    refine lv_iload_n hx hb d_la_isLike_2 rfl (lv_at hl 2 rfl) ?_
    refine lv_bipush (v := 8) hx hb d_la_isLike_3 (by decide) ?_
    refine lv_icmp_ge (tgt := 31) hx hb d_la_isLike_5 (by decide) (fun h1 => ?_) (fun h1 => ?_)
    · replace hF := (if_pos h1).symm.trans hF
      refine lv_iconst (v := 1) hx hb d_la_isLike_31 (by decide) ?_
      exact hw_iret hx hb hr hlk (f_nZ (Or.inr rfl)) hW hS (by omega) (by omega) d_la_isLike_32 hF
    · replace hF := (if_neg h1).symm.trans hF
      refine lv_aload_n hx hb d_la_isLike_8 rfl (lv_at hl 1 rfl) ?_
      refine hw_get (k := 14) (i := x1) (n := 32) (j := 0) (v := .ref (L 15 x1)) hx hb hts hown hK hW fl_la_23 rfl (by omega) rfl d_la_isLike_9 ?_
      refine lv_iload_n hx hb d_la_isLike_12 rfl (lv_at hl 2 rfl) ?_
      obtain ⟨g2, hF⟩ := f_gd_some hF
      refine hw_iald (k := 15) (i := x1) (n := 32) hx hb hK hW (by decide) rfl (by omega) rfl g2 d_la_isLike_13 ?_
      refine lv_aload_n hx hb d_la_isLike_14 rfl (lv_at hl 0 rfl) ?_
      refine hw_get (k := 24) (i := 0) (n := 1) (j := 0) (v := .ref (L 25 0)) hx hb hts hown hK hW fl_la_9 rfl (by omega) rfl d_la_isLike_15 ?_
      refine lv_iload_n hx hb d_la_isLike_18 rfl (lv_at hl 2 rfl) ?_
      obtain ⟨g3, hF⟩ := f_gd_some hF
      refine hw_iald (k := 25) (i := 0) (n := 1) hx hb hK hW (by decide) rfl (by omega) rfl g3 d_la_isLike_19 ?_
      refine lv_icmp_eq (tgt := 25) hx hb d_la_isLike_20 (by decide) (fun h4 => ?_) (fun h4 => ?_)
      · replace hF := (if_pos h4).symm.trans hF
        refine lv_iinc (k := 2) (x := x2) (v := x2 + 1) (lv' := [(2, .int (x2 + 1)), (0, .ref (L 24 0)), (1, .ref (L 14 x1))]) hx hb d_la_isLike_25 hl rfl rfl (by decide) rfl (fun ls hl => ?_)
        refine lv_goto (tgt := 2) hx hb d_la_isLike_28 (by decide) ?_
        exact K2 x1 (x2 + 1) z hF (by omega) _ _ _ _ _ hW hS (lv_sub hl [1, 2, 0] rfl) (by omega) (by omega)
      · replace hF := (if_neg h4).symm.trans hF
        refine lv_iconst (v := 0) hx hb d_la_isLike_23 (by decide) ?_
        exact hw_iret hx hb hr hlk (f_nZ (Or.inl rfl)) hW hS (by omega) (by omega) d_la_isLike_24 hF
  intro H locs ls cells slots hW hS hl hc hs
  have hl : lv_has ls 3 [(0, .ref (L 24 0)), (1, .ref (L 14 a1))] := hl
  unfold F_la_isLike at hF
  refine lv_iconst (v := 0) hx hb d_la_isLike_0 (by decide) ?_
  refine lv_istore_n (lv' := [(2, .int 0), (0, .ref (L 24 0)), (1, .ref (L 14 a1))]) hx hb d_la_isLike_1 rfl hl (by decide) rfl (fun ls hl => ?_)
  exact B2 2000 a1 0 z hF (by omega) _ _ _ _ _ hW hS (lv_sub hl [1, 2, 0] rfl) (by omega) (by omega)
set_option maxRecDepth 100000 in
set_option maxHeartbeats 4000000 in
theorem c_la_areAllLike_ok (l : Launch) (hl0 : l.stackTraces = false) {L : Nat → Nat → Nat} {Ar : Nat → ClassId} {D : va_G} {b0 : Nat} (hLi : f_L L b0) (a1 : Nat) (h_a1 : a1 < 32) (z : fST) (r : Int32) (z' : fST) (hF : F_la_areAllLike a1 z = some (r, z')) : f_C l y_la_areAllLike wt 2 0 L Ar D b0 [.ref (L 24 0), .ref (L 14 a1)] z (.inl (some (.int r))) z' := by
  refine f_ofW (cc := c_la_areAllLike) (maxL := 2) (ret := (some FieldType.boolean)) (by decide) w_la_areAllLike (Nat.le_of_ble_eq_true rfl) ?_
  intro p e s m args below meth c R hRf hRl hRc hRs hx hb hr hlk hml hno hts hown hK hZ hsz
  intro H locs ls cells slots hW hS hl hc hs
  have hl : lv_has ls 2 [(0, .ref (L 24 0)), (1, .ref (L 14 a1))] := hl
  unfold F_la_areAllLike at hF
  refine lv_aload_n hx hb d_la_areAllLike_0 rfl (lv_at hl 0 rfl) ?_
  refine hw_get (k := 24) (i := 0) (n := 1) (j := 1) (v := .int (f_gI z 24 0 1)) hx hb hts hown hK hW fl_la_15 rfl (by omega) rfl d_la_areAllLike_1 ?_
  refine lv_iconst (v := 3) hx hb d_la_areAllLike_4 (by decide) ?_
  refine lv_icmp_lt (tgt := 20) hx hb d_la_areAllLike_5 (by decide) (fun h1 => ?_) (fun h1 => ?_)
  · replace hF := (if_pos h1).symm.trans hF
    refine lv_iconst (v := 0) hx hb d_la_areAllLike_20 (by decide) ?_
    exact hw_iret hx hb hr hlk (f_nZ (Or.inl rfl)) hW hS (by omega) (by omega) d_la_areAllLike_21 hF
  · replace hF := (if_neg h1).symm.trans hF
    refine lv_aload_n hx hb d_la_areAllLike_8 rfl (lv_at hl 0 rfl) ?_
    refine lv_aload_n hx hb d_la_areAllLike_9 rfl (lv_at hl 1 rfl) ?_
    obtain ⟨v2, z2, hc2, hF⟩ := f_bd_some hF
    refine hw_VR (k := 24) (i := 0) (nk := 1) (As := [.ref (L 14 a1)]) (rest := []) hx hb hml hown hts (c_la_isLike_ok l hl0 hLi a1 (by omega) _ _ _ hc2) st_la_19 (by decide) rfl (by omega) rfl rfl hK hZ hsz hS hW rfl hl.1 (Nat.le_of_ble_eq_true rfl) d_la_areAllLike_10 (by omega) (by omega) (by omega) (by omega) (fun H locs hW hS => ?_)
    refine lv_if_eq (tgt := 20) hx hb d_la_areAllLike_13 (by decide) (fun h3 => ?_) (fun h3 => ?_)
    · replace hF := (if_pos h3).symm.trans hF
      refine lv_iconst (v := 0) hx hb d_la_areAllLike_20 (by decide) ?_
      exact hw_iret hx hb hr hlk (f_nZ (Or.inl rfl)) hW hS (by omega) (by omega) d_la_areAllLike_21 hF
    · replace hF := (if_neg h3).symm.trans hF
      refine lv_iconst (v := 1) hx hb d_la_areAllLike_16 (by decide) ?_
      refine lv_goto (tgt := 21) hx hb d_la_areAllLike_17 (by decide) ?_
      exact hw_iret hx hb hr hlk (f_nZ (Or.inr rfl)) hW hS (by omega) (by omega) d_la_areAllLike_21 hF
set_option maxRecDepth 100000 in
set_option maxHeartbeats 4000000 in
theorem c_b_judgementByState_ok (l : Launch) (hl0 : l.stackTraces = false) {L : Nat → Nat → Nat} {Ar : Nat → ClassId} {D : va_G} {b0 : Nat} (hLi : f_L L b0) (a1 : Nat) (a2 : Int32) (h_a1 : a1 < 16) (z : fST) (r : Int32) (z' : fST) (hF : F_b_judgementByState a1 a2 z = some (r, z')) : f_C l y_b_judgementByState wt 3 0 L Ar D b0 [.ref (L 0 0), .ref (L 13 a1), .int a2] z (.inl (some (.int r))) z' := by
  refine f_ofW (cc := c_b_judgementByState) (maxL := 4) (ret := (some FieldType.int)) (by decide) w_b_judgementByState (Nat.le_of_ble_eq_true rfl) ?_
  intro p e s m args below meth c R hRf hRl hRc hRs hx hb hr hlk hml hno hts hown hK hZ hsz
  intro H locs ls cells slots hW hS hl hc hs
  have hl : lv_has ls 4 [(0, .ref (L 0 0)), (1, .ref (L 13 a1)), (2, .int a2)] := hl
  unfold F_b_judgementByState at hF
  refine lv_aload_n hx hb d_b_judgementByState_0 rfl (lv_at hl 0 rfl) ?_
  refine hw_get (k := 0) (i := 0) (n := 1) (j := 0) (v := .ref (L 1 0)) hx hb hts hown hK hW fl_b_12 rfl (by omega) rfl d_b_judgementByState_1 ?_
  refine hw_get (k := 1) (i := 0) (n := 1) (j := 2) (v := .ref (L 4 0)) hx hb hts hown hK hW fl_b_295 rfl (by omega) rfl d_b_judgementByState_4 ?_
  refine lv_iload_n hx hb d_b_judgementByState_7 rfl (lv_at hl 2 rfl) ?_
  obtain ⟨g1, hF⟩ := f_gd_some hF
  refine hw_iald (k := 4) (i := 0) (n := 1) hx hb hK hW (by decide) rfl (by omega) rfl g1 d_b_judgementByState_8 ?_
  refine lv_istore_n (lv' := [(3, .int (f_gI z 4 0 (f_ix a2))), (0, .ref (L 0 0)), (1, .ref (L 13 a1)), (2, .int a2)]) hx hb d_b_judgementByState_9 rfl hl (by decide) rfl (fun ls hl => ?_)
  refine lv_aload_n hx hb d_b_judgementByState_10 rfl (lv_at hl 1 rfl) ?_
  refine hw_get (k := 0) (i := 0) (n := 1) (j := 2) (v := .ref (L 16 0)) hx hb hts hown hK hW fl_b_26 rfl (by omega) rfl d_b_judgementByState_11 ?_
  refine hw_get (k := 16) (i := 0) (n := 1) (j := 0) (v := .ref (L 17 0)) hx hb hts hown hK hW fl_b_164 rfl (by omega) rfl d_b_judgementByState_14 ?_
  refine lv_iload_n hx hb d_b_judgementByState_17 rfl (lv_at hl 0 rfl) ?_
  obtain ⟨g2, hF⟩ := f_gd_some hF
  refine hw_iald (k := 17) (i := 0) (n := 1) hx hb hK hW (by decide) rfl (by omega) rfl g2 d_b_judgementByState_18 ?_
  refine lv_aload_n hx hb d_b_judgementByState_19 rfl (lv_at hl 1 rfl) ?_
  refine lv_iload_n hx hb d_b_judgementByState_20 rfl (lv_at hl 0 rfl) ?_
  obtain ⟨v3, z3, hc3, hF⟩ := f_bd_some hF
  refine hw_VR (k := 0) (i := 0) (nk := 1) (As := [.int (f_gI z 4 0 (f_ix a2))]) (rest := [.int (f_gI z 17 0 (f_ix (f_gI z 4 0 (f_ix a2))))]) hx hb hml hown hts (c_b_acceptedFor_ok l hl0 hLi (f_gI z 4 0 (f_ix a2))  _ _ _ hc3) st_b_297 (by decide) rfl (by omega) rfl rfl hK hZ hsz hS hW rfl hl.1 (Nat.le_of_ble_eq_true rfl) d_b_judgementByState_21 (by omega) (by omega) (by omega) (by omega) (fun H locs hW hS => ?_)
  refine lv_iadd hx hb d_b_judgementByState_24 ?_
  refine lv_aload_n hx hb d_b_judgementByState_25 rfl (lv_at hl 1 rfl) ?_
  refine hw_get (k := 0) (i := 0) (n := 1) (j := 2) (v := .ref (L 16 0)) hx hb hts hown hK hW fl_b_26 rfl (by omega) rfl d_b_judgementByState_26 ?_
  refine hw_get (k := 16) (i := 0) (n := 1) (j := 1) (v := .ref (L 18 0)) hx hb hts hown hK hW fl_b_167 rfl (by omega) rfl d_b_judgementByState_29 ?_
  refine lv_iload_n hx hb d_b_judgementByState_32 rfl (lv_at hl 0 rfl) ?_
  obtain ⟨g4, hF⟩ := f_gd_some hF
  refine hw_iald (k := 18) (i := 0) (n := 1) hx hb hK hW (by decide) rfl (by omega) rfl g4 d_b_judgementByState_33 ?_
  refine lv_icmp_lt (tgt := 40) hx hb d_b_judgementByState_34 (by decide) (fun h5 => ?_) (fun h5 => ?_)
  · replace hF := (if_pos h5).symm.trans hF
    refine lv_aload_n hx hb d_b_judgementByState_40 rfl (lv_at hl 1 rfl) ?_
    refine hw_get (k := 0) (i := 0) (n := 1) (j := 3) (v := .ref (L 19 0)) hx hb hts hown hK hW fl_b_33 rfl (by omega) rfl d_b_judgementByState_41 ?_
    obtain ⟨v6, z6, hc6, hF⟩ := f_bd_some hF
    refine hw_VR (k := 19) (i := 0) (nk := 1) (As := []) (rest := []) hx hb hml hown hts (c_vo_isFull_ok l hl0 hLi   _ _ _ hc6) st_b_139 (by decide) rfl (by omega) rfl rfl hK hZ hsz hS hW rfl hl.1 (Nat.le_of_ble_eq_true rfl) d_b_judgementByState_44 (by omega) (by omega) (by omega) (by omega) (fun H locs hW hS => ?_)
    refine lv_if_eq (tgt := 53) hx hb d_b_judgementByState_47 (by decide) (fun h7 => ?_) (fun h7 => ?_)
    · replace hF := (if_pos h7).symm.trans hF
      refine lv_aload_n hx hb d_b_judgementByState_53 rfl (lv_at hl 1 rfl) ?_
      obtain ⟨v8, z8, hc8, hF⟩ := f_bd_some hF
      refine hw_VR (k := 0) (i := 0) (nk := 1) (As := []) (rest := []) hx hb hml hown hts (c_b_isSuspicious_ok l hl0 hLi   _ _ _ hc8) st_b_170 (by decide) rfl (by omega) rfl rfl hK hZ hsz hS hW rfl hl.1 (Nat.le_of_ble_eq_true rfl) d_b_judgementByState_54 (by omega) (by omega) (by omega) (by omega) (fun H locs hW hS => ?_)
      refine lv_if_eq (tgt := 63) hx hb d_b_judgementByState_57 (by decide) (fun h9 => ?_) (fun h9 => ?_)
      · replace hF := (if_pos h9).symm.trans hF
        refine lv_aload_n hx hb d_b_judgementByState_63 rfl (lv_at hl 1 rfl) ?_
        refine hw_get (k := 0) (i := 0) (n := 1) (j := 5) (v := .ref (L 24 0)) hx hb hts hown hK hW fl_b_47 rfl (by omega) rfl d_b_judgementByState_64 ?_
        refine lv_aload_n hx hb d_b_judgementByState_67 rfl (lv_at hl 2 rfl) ?_
        refine hw_get (k := 13) (i := a1) (n := 16) (j := 1) (v := .ref (L 14 (a1 + 16))) hx hb hts hown hK hW fl_b_109 rfl (by omega) rfl d_b_judgementByState_68 ?_
        obtain ⟨v10, z10, hc10, hF⟩ := f_bd_some hF
        refine hw_VR (k := 24) (i := 0) (nk := 1) (As := [.ref (L 14 (a1 + 16))]) (rest := []) hx hb hml hown hts (c_la_areAllLike_ok l hl0 hLi (a1 + 16) (by omega) _ _ _ hc10) st_b_300 (by decide) rfl (by omega) rfl rfl hK hZ hsz hS hW rfl hl.1 (Nat.le_of_ble_eq_true rfl) d_b_judgementByState_71 (by omega) (by omega) (by omega) (by omega) (fun H locs hW hS => ?_)
        refine lv_if_eq (tgt := 80) hx hb d_b_judgementByState_74 (by decide) (fun h11 => ?_) (fun h11 => ?_)
        · replace hF := (if_pos h11).symm.trans hF
          refine lv_bipush (v := 10) hx hb d_b_judgementByState_80 (by decide) ?_
          exact hw_iret hx hb hr hlk (vp_nar_int _) hW hS (by omega) (by omega) d_b_judgementByState_82 hF
        · replace hF := (if_neg h11).symm.trans hF
          refine lv_bipush (v := 9) hx hb d_b_judgementByState_77 (by decide) ?_
          exact hw_iret hx hb hr hlk (vp_nar_int _) hW hS (by omega) (by omega) d_b_judgementByState_79 hF
      · replace hF := (if_neg h9).symm.trans hF
        refine lv_bipush (v := 8) hx hb d_b_judgementByState_60 (by decide) ?_
        exact hw_iret hx hb hr hlk (vp_nar_int _) hW hS (by omega) (by omega) d_b_judgementByState_62 hF
    · replace hF := (if_neg h7).symm.trans hF
      refine lv_bipush (v := 7) hx hb d_b_judgementByState_50 (by decide) ?_
      exact hw_iret hx hb hr hlk (vp_nar_int _) hW hS (by omega) (by omega) d_b_judgementByState_52 hF
  · replace hF := (if_neg h5).symm.trans hF
    refine lv_bipush (v := 6) hx hb d_b_judgementByState_37 (by decide) ?_
    exact hw_iret hx hb hr hlk (vp_nar_int _) hW hS (by omega) (by omega) d_b_judgementByState_39 hF
set_option maxRecDepth 100000 in
set_option maxHeartbeats 4000000 in
theorem c_jo_write_ok (l : Launch) (hl0 : l.stackTraces = false) {L : Nat → Nat → Nat} {Ar : Nat → ClassId} {D : va_G} {b0 : Nat} (hLi : f_L L b0)   (z : fST) (r : Int32) (z' : fST) (hF : F_jo_write  z = some (r, z')) : f_C l y_jo_write wt 1 0 L Ar D b0 [.ref (L 23 0)] z (.inl (some (.int r))) z' := by
  refine f_ofW (cc := c_jo_write) (maxL := 1) (ret := (some FieldType.boolean)) (by decide) w_jo_write (Nat.le_of_ble_eq_true rfl) ?_
  intro p e s m args below meth c R hRf hRl hRc hRs hx hb hr hlk hml hno hts hown hK hZ hsz
  have B38 : ∀   (z : fST), b_jo_write_38  z = some (r, z') →  f_B p l e R s m args below meth c L Ar D b0 1 0 (f_E below args s L Ar D b0 0 (.inl (some (.int r))) z') 0 38 [(0, .ref (L 23 0))] [] z := by
    intro  z hF  H locs ls cells slots hW hS hl hc hs
    unfold b_jo_write_38 at hF
    refine lv_aload_n hx hb d_jo_write_38 rfl (lv_at hl 0 rfl) ?_
    refine lv_dup hx hb d_jo_write_39 rfl ?_
    refine hw_get (k := 23) (i := 0) (n := 1) (j := 0) (v := .int (f_gI z 23 0 0)) hx hb hts hown hK hW fl_jo_17 rfl (by omega) rfl d_jo_write_40 ?_
    refine lv_iconst (v := 1) hx hb d_jo_write_43 (by decide) ?_
    refine lv_iadd hx hb d_jo_write_44 ?_
    refine hw_put (k := 23) (i := 0) (n := 1) (j := 0) (v := (f_gI z 23 0 0) + 1) hx hb hts hown hK hLi hW hS fp_jo_17 (vp_nar_int _) rfl rfl (by omega) d_jo_write_45 (fun H locs hW hS => ?_)
    refine lv_iconst (v := 1) hx hb d_jo_write_48 (by decide) ?_
    exact hw_iret hx hb hr hlk (f_nZ (Or.inr rfl)) hW hS (by omega) (by omega) d_jo_write_49 hF
  intro H locs ls cells slots hW hS hl hc hs
  have hl : lv_has ls 1 [(0, .ref (L 23 0))] := hl
  unfold F_jo_write at hF
  refine lv_aload_n hx hb d_jo_write_0 rfl (lv_at hl 0 rfl) ?_
  refine hw_get (k := 23) (i := 0) (n := 1) (j := 1) (v := .int (f_gI z 23 0 1)) hx hb hts hown hK hW fl_jo_13 rfl (by omega) rfl d_jo_write_1 ?_
  refine lv_iconst (v := 1) hx hb d_jo_write_4 (by decide) ?_
  refine lv_icmp_ne (tgt := 20) hx hb d_jo_write_5 (by decide) (fun h1 => ?_) (fun h1 => ?_)
  · replace hF := (if_neg h1).symm.trans hF
    refine lv_aload_n hx hb d_jo_write_20 rfl (lv_at hl 0 rfl) ?_
    refine hw_get (k := 23) (i := 0) (n := 1) (j := 1) (v := .int (f_gI z 23 0 1)) hx hb hts hown hK hW fl_jo_13 rfl (by omega) rfl d_jo_write_21 ?_
    refine lv_iconst (v := 1) hx hb d_jo_write_24 (by decide) ?_
    refine lv_icmp_le (tgt := 38) hx hb d_jo_write_25 (by decide) (fun h2 => ?_) (fun h2 => ?_)
    · replace hF := (if_pos h2).symm.trans hF
      exact B38 z hF _ _ _ _ _ hW hS (lv_sub hl [0] rfl) (by omega) (by omega)
    · replace hF := (if_neg h2).symm.trans hF
      refine lv_aload_n hx hb d_jo_write_28 rfl (lv_at hl 0 rfl) ?_
      refine lv_dup hx hb d_jo_write_29 rfl ?_
      refine hw_get (k := 23) (i := 0) (n := 1) (j := 1) (v := .int (f_gI z 23 0 1)) hx hb hts hown hK hW fl_jo_13 rfl (by omega) rfl d_jo_write_30 ?_
      refine lv_iconst (v := 1) hx hb d_jo_write_33 (by decide) ?_
      refine lv_isub hx hb d_jo_write_34 ?_
      refine hw_put (k := 23) (i := 0) (n := 1) (j := 1) (v := (f_gI z 23 0 1) - 1) hx hb hts hown hK hLi hW hS fp_jo_13 (vp_nar_int _) rfl rfl (by omega) d_jo_write_35 (fun H locs hW hS => ?_)
      exact B38 (f_pI z 23 0 1 ((f_gI z 23 0 1) - 1)) hF _ _ _ _ _ hW hS (lv_sub hl [0] rfl) (by omega) (by omega)
  · replace hF := (if_pos h1).symm.trans hF
    refine lv_aload_n hx hb d_jo_write_8 rfl (lv_at hl 0 rfl) ?_
    refine lv_iconst (v := 0) hx hb d_jo_write_9 (by decide) ?_
    refine hw_put (k := 23) (i := 0) (n := 1) (j := 1) (v := 0) hx hb hts hown hK hLi hW hS fp_jo_13 (vp_nar_int _) rfl rfl (by omega) d_jo_write_10 (fun H locs hW hS => ?_)
    refine lv_aload_n hx hb d_jo_write_13 rfl (lv_at hl 0 rfl) ?_
    refine lv_iconst (v := 0) hx hb d_jo_write_14 (by decide) ?_
    refine hw_put (k := 23) (i := 0) (n := 1) (j := 2) (v := 0) hx hb hts hown hK hLi hW hS fp_jo_7 (f_nZ (Or.inl rfl)) (f_fZ _ (Or.inl rfl)) rfl (by omega) d_jo_write_15 (fun H locs hW hS => ?_)
    refine lv_iconst (v := 0) hx hb d_jo_write_18 (by decide) ?_
    exact hw_iret hx hb hr hlk (f_nZ (Or.inl rfl)) hW hS (by omega) (by omega) d_jo_write_19 hF
set_option maxRecDepth 100000 in
set_option maxHeartbeats 4000000 in
theorem c_la_note_ok (l : Launch) (hl0 : l.stackTraces = false) {L : Nat → Nat → Nat} {Ar : Nat → ClassId} {D : va_G} {b0 : Nat} (hLi : f_L L b0) (a1 : Nat) (h_a1 : a1 < 32) (z : fST) (r : Unit) (z' : fST) (hF : F_la_note a1 z = some (r, z')) : f_C l y_la_note wt 2 0 L Ar D b0 [.ref (L 24 0), .ref (L 14 a1)] z (.inl none) z' := by
  refine f_ofW (cc := c_la_note) (maxL := 2) (ret := (Option.none : Option Jvm.ClassFile.FieldType)) (by decide) w_la_note (Nat.le_of_ble_eq_true rfl) ?_
  intro p e s m args below meth c R hRf hRl hRc hRs hx hb hr hlk hml hno hts hown hK hZ hsz
  have B26 : ∀  (x1 : Nat) (z : fST), b_la_note_26  x1 z = some (r, z') → x1 < 32 → f_B p l e R s m args below meth c L Ar D b0 2 0 (f_E below args s L Ar D b0 0 (.inl none) z') 0 26 [(0, .ref (L 24 0)), (1, .ref (L 14 x1))] [] z := by
    intro  x1 z hF h_x1 H locs ls cells slots hW hS hl hc hs
    unfold b_la_note_26 at hF
    refine lv_aload_n hx hb d_la_note_26 rfl (lv_at hl 1 rfl) ?_
    refine hw_get (k := 14) (i := x1) (n := 32) (j := 0) (v := .ref (L 15 x1)) hx hb hts hown hK hW fl_la_23 rfl (by omega) rfl d_la_note_27 ?_
    refine lv_iconst (v := 0) hx hb d_la_note_30 (by decide) ?_
    refine lv_aload_n hx hb d_la_note_31 rfl (lv_at hl 0 rfl) ?_
    refine hw_get (k := 24) (i := 0) (n := 1) (j := 0) (v := .ref (L 25 0)) hx hb hts hown hK hW fl_la_9 rfl (by omega) rfl d_la_note_32 ?_
    refine lv_iconst (v := 0) hx hb d_la_note_35 (by decide) ?_
    refine lv_bipush (v := 8) hx hb d_la_note_36 (by decide) ?_
    obtain ⟨g4, hF⟩ := f_gd_some hF
    have g4 := of_decide_eq_true g4
    refine hw_copy (i := x1) hx hb hml hl.1 hown hts st_copy hK hLi hW hS g4 (by omega) (by omega) (by simp only [List.map, List.sum_cons, List.sum_nil, Value.category]; rw [show nativeFrameWords "java/lang/System" "arraycopy" 5 + 11 = 0 + (nativeFrameWords "java/lang/System" "arraycopy" 5 + 11) by omega]; exact Nat.le_trans (by decide) (Nat.le_of_eq hRl.symm)) d_la_note_38 (fun H locs hW hS => ?_)
    refine lv_aload_n hx hb d_la_note_41 rfl (lv_at hl 0 rfl) ?_
    refine lv_iconst (v := 1) hx hb d_la_note_42 (by decide) ?_
    refine hw_put (k := 24) (i := 0) (n := 1) (j := 1) (v := 1) hx hb hts hown hK hLi hW hS fp_la_15 (vp_nar_int _) rfl rfl (by omega) d_la_note_43 (fun H locs hW hS => ?_)
    exact hw_vret hx hb hr hlk hW hS (by omega) (by omega) d_la_note_46 hF
  intro H locs ls cells slots hW hS hl hc hs
  have hl : lv_has ls 2 [(0, .ref (L 24 0)), (1, .ref (L 14 a1))] := hl
  unfold F_la_note at hF
  refine lv_aload_n hx hb d_la_note_0 rfl (lv_at hl 0 rfl) ?_
  refine hw_get (k := 24) (i := 0) (n := 1) (j := 1) (v := .int (f_gI z 24 0 1)) hx hb hts hown hK hW fl_la_15 rfl (by omega) rfl d_la_note_1 ?_
  refine lv_if_le (tgt := 26) hx hb d_la_note_4 (by decide) (fun h1 => ?_) (fun h1 => ?_)
  · replace hF := (if_pos h1).symm.trans hF
    exact B26 a1 z hF (by omega) _ _ _ _ _ hW hS (lv_sub hl [0, 1] rfl) (by omega) (by omega)
  · replace hF := (if_neg h1).symm.trans hF
    refine lv_aload_n hx hb d_la_note_7 rfl (lv_at hl 0 rfl) ?_
    refine lv_aload_n hx hb d_la_note_8 rfl (lv_at hl 1 rfl) ?_
    obtain ⟨v2, z2, hc2, hF⟩ := f_bd_some hF
    refine hw_VR (k := 24) (i := 0) (nk := 1) (As := [.ref (L 14 a1)]) (rest := []) hx hb hml hown hts (c_la_isLike_ok l hl0 hLi a1 (by omega) _ _ _ hc2) st_la_19 (by decide) rfl (by omega) rfl rfl hK hZ hsz hS hW rfl hl.1 (Nat.le_of_ble_eq_true rfl) d_la_note_9 (by omega) (by omega) (by omega) (by omega) (fun H locs hW hS => ?_)
    refine lv_if_eq (tgt := 26) hx hb d_la_note_12 (by decide) (fun h3 => ?_) (fun h3 => ?_)
    · replace hF := (if_pos h3).symm.trans hF
      exact B26 a1 z2 hF (by omega) _ _ _ _ _ hW hS (lv_sub hl [0, 1] rfl) (by omega) (by omega)
    · replace hF := (if_neg h3).symm.trans hF
      refine lv_aload_n hx hb d_la_note_15 rfl (lv_at hl 0 rfl) ?_
      refine lv_dup hx hb d_la_note_16 rfl ?_
      refine hw_get (k := 24) (i := 0) (n := 1) (j := 1) (v := .int (f_gI z2 24 0 1)) hx hb hts hown hK hW fl_la_15 rfl (by omega) rfl d_la_note_17 ?_
      refine lv_iconst (v := 1) hx hb d_la_note_20 (by decide) ?_
      refine lv_iadd hx hb d_la_note_21 ?_
      refine hw_put (k := 24) (i := 0) (n := 1) (j := 1) (v := (f_gI z2 24 0 1) + 1) hx hb hts hown hK hLi hW hS fp_la_15 (vp_nar_int _) rfl rfl (by omega) d_la_note_22 (fun H locs hW hS => ?_)
      exact hw_vret hx hb hr hlk hW hS (by omega) (by omega) d_la_note_25 hF
set_option maxRecDepth 100000 in
set_option maxHeartbeats 4000000 in
theorem c_b_judge_ok (l : Launch) (hl0 : l.stackTraces = false) {L : Nat → Nat → Nat} {Ar : Nat → ClassId} {D : va_G} {b0 : Nat} (hLi : f_L L b0) (a1 : Nat) (h_a1 : a1 < 16) (z : fST) (r : Unit) (z' : fST) (hF : F_b_judge a1 z = some (r, z')) : f_C l y_b_judge wt 4 0 L Ar D b0 [.ref (L 0 0), .ref (L 13 a1)] z (.inl none) z' := by
  refine f_ofW (cc := c_b_judge) (maxL := 4) (ret := (Option.none : Option Jvm.ClassFile.FieldType)) (by decide) w_b_judge (Nat.le_of_ble_eq_true rfl) ?_
  intro p e s m args below meth c R hRf hRl hRc hRs hx hb hr hlk hml hno hts hown hK hZ hsz
  have B29 : ∀  (x1 : Nat) (x2 : Int32) (x3 : Int32) (z : fST), b_b_judge_29  x1 x2 x3 z = some (r, z') → x1 < 16 → f_B p l e R s m args below meth c L Ar D b0 4 0 (f_E below args s L Ar D b0 0 (.inl none) z') 0 29 [(0, .ref (L 0 0)), (1, .ref (L 13 x1)), (2, .int x2), (3, .int x3)] [] z := by
    intro  x1 x2 x3 z hF h_x1 H locs ls cells slots hW hS hl hc hs
    unfold b_b_judge_29 at hF
    refine lv_iload_n hx hb d_b_judge_29 rfl (lv_at hl 3 rfl) ?_
    refine lv_bipush (v := 10) hx hb d_b_judge_30 (by decide) ?_
    refine lv_icmp_eq (tgt := 53) hx hb d_b_judge_32 (by decide) (fun h5 => ?_) (fun h5 => ?_)
    · replace hF := (if_pos h5).symm.trans hF
      refine lv_aload_n hx hb d_b_judge_53 rfl (lv_at hl 0 rfl) ?_
      refine hw_get (k := 0) (i := 0) (n := 1) (j := 4) (v := .ref (L 23 0)) hx hb hts hown hK hW fl_b_40 rfl (by omega) rfl d_b_judge_54 ?_
      obtain ⟨v6, z6, hc6, hF⟩ := f_bd_some hF
      refine hw_VR (k := 23) (i := 0) (nk := 1) (As := []) (rest := []) hx hb hml hown hts (c_jo_write_ok l hl0 hLi   _ _ _ hc6) st_b_142 (by decide) rfl (by omega) rfl rfl hK hZ hsz hS hW rfl hl.1 (Nat.le_of_ble_eq_true rfl) d_b_judge_57 (by omega) (by omega) (by omega) (by omega) (fun H locs hW hS => ?_)
      refine lv_if_eq (tgt := 85) hx hb d_b_judge_60 (by decide) (fun h7 => ?_) (fun h7 => ?_)
      · replace hF := (if_pos h7).symm.trans hF
        exact hw_vret hx hb hr hlk hW hS (by omega) (by omega) d_b_judge_85 hF
      · replace hF := (if_neg h7).symm.trans hF
        refine lv_aload_n hx hb d_b_judge_63 rfl (lv_at hl 1 rfl) ?_
        refine lv_bipush (v := 10) hx hb d_b_judge_64 (by decide) ?_
        refine hw_put (k := 13) (i := x1) (n := 16) (j := 6) (v := 10) hx hb hts hown hK hLi hW hS fp_b_222 (vp_nar_int _) rfl rfl (by omega) d_b_judge_66 (fun H locs hW hS => ?_)
        refine lv_aload_n hx hb d_b_judge_69 rfl (lv_at hl 1 rfl) ?_
        refine lv_iload_n hx hb d_b_judge_70 rfl (lv_at hl 2 rfl) ?_
        refine hw_put (k := 13) (i := x1) (n := 16) (j := 7) (v := x2) hx hb hts hown hK hLi hW hS fp_b_225 (vp_nar_int _) rfl rfl (by omega) d_b_judge_71 (fun H locs hW hS => ?_)
        refine lv_aload_n hx hb d_b_judge_74 rfl (lv_at hl 0 rfl) ?_
        refine hw_get (k := 0) (i := 0) (n := 1) (j := 5) (v := .ref (L 24 0)) hx hb hts hown hK hW fl_b_47 rfl (by omega) rfl d_b_judge_75 ?_
        refine lv_aload_n hx hb d_b_judge_78 rfl (lv_at hl 1 rfl) ?_
        refine hw_get (k := 13) (i := x1) (n := 16) (j := 1) (v := .ref (L 14 (x1 + 16))) hx hb hts hown hK hW fl_b_109 rfl (by omega) rfl d_b_judge_79 ?_
        obtain ⟨v8, z8, hc8, hF⟩ := f_bd_some hF
        refine hw_VR (k := 24) (i := 0) (nk := 1) (As := [.ref (L 14 (x1 + 16))]) (rest := []) hx hb hml hown hts (c_la_note_ok l hl0 hLi (x1 + 16) (by omega) _ _ _ hc8) st_b_281 (by decide) rfl (by omega) rfl rfl hK hZ hsz hS hW rfl hl.1 (Nat.le_of_ble_eq_true rfl) d_b_judge_82 (by omega) (by omega) (by omega) (by omega) (fun H locs hW hS => ?_)
        exact hw_vret hx hb hr hlk hW hS (by omega) (by omega) d_b_judge_85 hF
    · replace hF := (if_neg h5).symm.trans hF
      refine lv_aload_n hx hb d_b_judge_35 rfl (lv_at hl 1 rfl) ?_
      refine lv_iload_n hx hb d_b_judge_36 rfl (lv_at hl 3 rfl) ?_
      refine hw_put (k := 13) (i := x1) (n := 16) (j := 6) (v := x3) hx hb hts hown hK hLi hW hS fp_b_222 (vp_nar_int _) rfl rfl (by omega) d_b_judge_37 (fun H locs hW hS => ?_)
      refine lv_aload_n hx hb d_b_judge_40 rfl (lv_at hl 0 rfl) ?_
      refine hw_get (k := 0) (i := 0) (n := 1) (j := 6) (v := .ref (L 26 0)) hx hb hts hown hK hW fl_b_51 rfl (by omega) rfl d_b_judge_41 ?_
      refine lv_iload_n hx hb d_b_judge_44 rfl (lv_at hl 3 rfl) ?_
      refine lv_dup2_11 hx hb d_b_judge_45 rfl rfl ?_
      obtain ⟨g9, hF⟩ := f_gd_some hF
      refine hw_iald (k := 26) (i := 0) (n := 1) hx hb hK hW (by decide) rfl (by omega) rfl g9 d_b_judge_46 ?_
      refine lv_iconst (v := 1) hx hb d_b_judge_47 (by decide) ?_
      refine lv_iadd hx hb d_b_judge_48 ?_
      obtain ⟨g10, hF⟩ := f_gd_some hF
      refine hw_iast (k := 26) (i := 0) (n := 1) hx hb hK hLi hW hS (by decide) rfl (by omega) rfl g10 d_b_judge_49 (fun H locs hW hS => ?_)
      refine lv_goto (tgt := 85) hx hb d_b_judge_50 (by decide) ?_
      exact hw_vret hx hb hr hlk hW hS (by omega) (by omega) d_b_judge_85 hF
  intro H locs ls cells slots hW hS hl hc hs
  have hl : lv_has ls 4 [(0, .ref (L 0 0)), (1, .ref (L 13 a1))] := hl
  unfold F_b_judge at hF
  refine lv_aload_n hx hb d_b_judge_0 rfl (lv_at hl 0 rfl) ?_
  refine hw_get (k := 0) (i := 0) (n := 1) (j := 0) (v := .ref (L 1 0)) hx hb hts hown hK hW fl_b_12 rfl (by omega) rfl d_b_judge_1 ?_
  refine lv_aload_n hx hb d_b_judge_4 rfl (lv_at hl 1 rfl) ?_
  obtain ⟨v1, z1, hc1, hF⟩ := f_bd_some hF
  refine hw_VR (k := 1) (i := 0) (nk := 1) (As := [.ref (L 13 a1)]) (rest := []) hx hb hml hown hts (c_ca_kindOf_ok l hl0 hLi a1 (by omega) _ _ _ hc1) st_b_270 (by decide) rfl (by omega) rfl rfl hK hZ hsz hS hW rfl hl.1 (Nat.le_of_ble_eq_true rfl) d_b_judge_5 (by omega) (by omega) (by omega) (by omega) (fun H locs hW hS => ?_)
  refine lv_istore_n (lv' := [(2, .int v1), (0, .ref (L 0 0)), (1, .ref (L 13 a1))]) hx hb d_b_judge_8 rfl hl (by decide) rfl (fun ls hl => ?_)
  refine lv_aload_n hx hb d_b_judge_9 rfl (lv_at hl 1 rfl) ?_
  refine lv_aload_n hx hb d_b_judge_10 rfl (lv_at hl 2 rfl) ?_
  refine lv_iload_n hx hb d_b_judge_11 rfl (lv_at hl 0 rfl) ?_
  obtain ⟨v2, z2, hc2, hF⟩ := f_bd_some hF
  refine hw_VR (k := 0) (i := 0) (nk := 1) (As := [.ref (L 13 a1), .int v1]) (rest := []) hx hb hml hown hts (c_b_judgementByReadings_ok l hl0 hLi a1 v1 (by omega) _ _ _ hc2) st_b_274 (by decide) rfl (by omega) rfl rfl hK hZ hsz hS hW rfl hl.1 (Nat.le_of_ble_eq_true rfl) d_b_judge_12 (by omega) (by omega) (by omega) (by omega) (fun H locs hW hS => ?_)
  refine lv_istore_n (lv' := [(3, .int v2), (2, .int v1), (0, .ref (L 0 0)), (1, .ref (L 13 a1))]) hx hb d_b_judge_15 rfl hl (by decide) rfl (fun ls hl => ?_)
  refine lv_iload_n hx hb d_b_judge_16 rfl (lv_at hl 0 rfl) ?_
  refine lv_bipush (v := 10) hx hb d_b_judge_17 (by decide) ?_
  refine lv_icmp_ne (tgt := 29) hx hb d_b_judge_19 (by decide) (fun h3 => ?_) (fun h3 => ?_)
  · replace hF := (if_neg h3).symm.trans hF
    exact B29 a1 v1 v2 z2 hF (by omega) _ _ _ _ _ hW hS (lv_sub hl [2, 3, 1, 0] rfl) (by omega) (by omega)
  · replace hF := (if_pos h3).symm.trans hF
    refine lv_aload_n hx hb d_b_judge_22 rfl (lv_at hl 2 rfl) ?_
    refine lv_aload_n hx hb d_b_judge_23 rfl (lv_at hl 3 rfl) ?_
    refine lv_iload_n hx hb d_b_judge_24 rfl (lv_at hl 1 rfl) ?_
    obtain ⟨v4, z4, hc4, hF⟩ := f_bd_some hF
    refine hw_VR (k := 0) (i := 0) (nk := 1) (As := [.ref (L 13 a1), .int v1]) (rest := []) hx hb hml hown hts (c_b_judgementByState_ok l hl0 hLi a1 v1 (by omega) _ _ _ hc4) st_b_278 (by decide) rfl (by omega) rfl rfl hK hZ hsz hS hW rfl hl.1 (Nat.le_of_ble_eq_true rfl) d_b_judge_25 (by omega) (by omega) (by omega) (by omega) (fun H locs hW hS => ?_)
    refine lv_istore_n (lv' := [(3, .int v4), (2, .int v1), (0, .ref (L 0 0)), (1, .ref (L 13 a1))]) hx hb d_b_judge_28 rfl hl (by decide) rfl (fun ls hl => ?_)
    exact B29 a1 v1 v4 z4 hF (by omega) _ _ _ _ _ hW hS (lv_sub hl [2, 3, 1, 0] rfl) (by omega) (by omega)
set_option maxRecDepth 100000 in
set_option maxHeartbeats 4000000 in
theorem c_b_pay_ok (l : Launch) (hl0 : l.stackTraces = false) {L : Nat → Nat → Nat} {Ar : Nat → ClassId} {D : va_G} {b0 : Nat} (hLi : f_L L b0) (a1 : Nat) (h_a1 : a1 < 16) (z : fST) (r : Unit) (z' : fST) (hF : F_b_pay a1 z = some (r, z')) : f_C l y_b_pay wt 2 0 L Ar D b0 [.ref (L 0 0), .ref (L 13 a1)] z (.inl none) z' := by
  refine f_ofW (cc := c_b_pay) (maxL := 3) (ret := (Option.none : Option Jvm.ClassFile.FieldType)) (by decide) w_b_pay (Nat.le_of_ble_eq_true rfl) ?_
  intro p e s m args below meth c R hRf hRl hRc hRs hx hb hr hlk hml hno hts hown hK hZ hsz
  intro H locs ls cells slots hW hS hl hc hs
  have hl : lv_has ls 3 [(0, .ref (L 0 0)), (1, .ref (L 13 a1))] := hl
  unfold F_b_pay at hF
  refine lv_aload_n hx hb d_b_pay_0 rfl (lv_at hl 1 rfl) ?_
  refine hw_get (k := 13) (i := a1) (n := 16) (j := 7) (v := .int (f_gI z 13 a1 7)) hx hb hts hown hK hW fl_b_225 rfl (by omega) rfl d_b_pay_1 ?_
  refine lv_iconst (v := (-1)) hx hb d_b_pay_4 (by decide) ?_
  refine lv_icmp_eq (tgt := 18) hx hb d_b_pay_5 (by decide) (fun h1 => ?_) (fun h1 => ?_)
  · replace hF := (if_pos h1).symm.trans hF
    exact hw_vret hx hb hr hlk hW hS (by omega) (by omega) d_b_pay_18 hF
  · replace hF := (if_neg h1).symm.trans hF
    refine lv_aload_n hx hb d_b_pay_8 rfl (lv_at hl 0 rfl) ?_
    refine hw_get (k := 0) (i := 0) (n := 1) (j := 4) (v := .ref (L 23 0)) hx hb hts hown hK hW fl_b_40 rfl (by omega) rfl d_b_pay_9 ?_
    obtain ⟨v2, z2, hc2, hF⟩ := f_bd_some hF
    refine hw_VR (k := 23) (i := 0) (nk := 1) (As := []) (rest := []) hx hb hml hown hts (c_jo_write_ok l hl0 hLi   _ _ _ hc2) st_b_142 (by decide) rfl (by omega) rfl rfl hK hZ hsz hS hW rfl hl.1 (Nat.le_of_ble_eq_true rfl) d_b_pay_12 (by omega) (by omega) (by omega) (by omega) (fun H locs hW hS => ?_)
    refine lv_if_ne (tgt := 19) hx hb d_b_pay_15 (by decide) (fun h3 => ?_) (fun h3 => ?_)
    · replace hF := (if_neg h3).symm.trans hF
      refine lv_aload_n hx hb d_b_pay_19 rfl (lv_at hl 0 rfl) ?_
      refine hw_get (k := 0) (i := 0) (n := 1) (j := 0) (v := .ref (L 1 0)) hx hb hts hown hK hW fl_b_12 rfl (by omega) rfl d_b_pay_20 ?_
      refine hw_get (k := 1) (i := 0) (n := 1) (j := 1) (v := .ref (L 3 0)) hx hb hts hown hK hW fl_b_304 rfl (by omega) rfl d_b_pay_23 ?_
      refine lv_aload_n hx hb d_b_pay_26 rfl (lv_at hl 1 rfl) ?_
      refine hw_get (k := 13) (i := a1) (n := 16) (j := 7) (v := .int (f_gI z2 13 a1 7)) hx hb hts hown hK hW fl_b_225 rfl (by omega) rfl d_b_pay_27 ?_
      obtain ⟨g4, hF⟩ := f_gd_some hF
      refine hw_iald (k := 3) (i := 0) (n := 1) hx hb hK hW (by decide) rfl (by omega) rfl g4 d_b_pay_30 ?_
      refine lv_istore_n (lv' := [(2, .int (f_gI z2 3 0 (f_ix (f_gI z2 13 a1 7)))), (0, .ref (L 0 0)), (1, .ref (L 13 a1))]) hx hb d_b_pay_31 rfl hl (by decide) rfl (fun ls hl => ?_)
      refine lv_aload_n hx hb d_b_pay_32 rfl (lv_at hl 2 rfl) ?_
      refine lv_iconst (v := 1) hx hb d_b_pay_33 (by decide) ?_
      refine hw_put (k := 13) (i := a1) (n := 16) (j := 8) (v := 1) hx hb hts hown hK hLi hW hS fp_b_228 (f_nZ (Or.inr rfl)) (f_fZ _ (Or.inr rfl)) rfl (by omega) d_b_pay_34 (fun H locs hW hS => ?_)
      refine lv_aload_n hx hb d_b_pay_37 rfl (lv_at hl 1 rfl) ?_
      refine lv_dup hx hb d_b_pay_38 rfl ?_
      refine hw_get (k := 0) (i := 0) (n := 1) (j := 7) (v := .int (f_gI (f_pI z2 13 a1 8 1) 0 0 7)) hx hb hts hown hK hW fl_b_136 rfl (by omega) rfl d_b_pay_39 ?_
      refine lv_iload_n hx hb d_b_pay_42 rfl (lv_at hl 0 rfl) ?_
      refine lv_iadd hx hb d_b_pay_43 ?_
      refine hw_put (k := 0) (i := 0) (n := 1) (j := 7) (v := (f_gI (f_pI z2 13 a1 8 1) 0 0 7) + (f_gI z2 3 0 (f_ix (f_gI z2 13 a1 7)))) hx hb hts hown hK hLi hW hS fp_b_136 (vp_nar_int _) rfl rfl (by omega) d_b_pay_44 (fun H locs hW hS => ?_)
      refine lv_aload_n hx hb d_b_pay_47 rfl (lv_at hl 1 rfl) ?_
      refine lv_dup hx hb d_b_pay_48 rfl ?_
      refine hw_get (k := 0) (i := 0) (n := 1) (j := 9) (v := .int (f_gI (f_pI (f_pI z2 13 a1 8 1) 0 0 7 ((f_gI (f_pI z2 13 a1 8 1) 0 0 7) + (f_gI z2 3 0 (f_ix (f_gI z2 13 a1 7))))) 0 0 9)) hx hb hts hown hK hW fl_b_242 rfl (by omega) rfl d_b_pay_49 ?_
      refine lv_iload_n hx hb d_b_pay_52 rfl (lv_at hl 0 rfl) ?_
      refine lv_iadd hx hb d_b_pay_53 ?_
      refine hw_put (k := 0) (i := 0) (n := 1) (j := 9) (v := (f_gI (f_pI (f_pI z2 13 a1 8 1) 0 0 7 ((f_gI (f_pI z2 13 a1 8 1) 0 0 7) + (f_gI z2 3 0 (f_ix (f_gI z2 13 a1 7))))) 0 0 9) + (f_gI z2 3 0 (f_ix (f_gI z2 13 a1 7)))) hx hb hts hown hK hLi hW hS fp_b_242 (vp_nar_int _) rfl rfl (by omega) d_b_pay_54 (fun H locs hW hS => ?_)
      refine lv_aload_n hx hb d_b_pay_57 rfl (lv_at hl 1 rfl) ?_
      refine lv_dup hx hb d_b_pay_58 rfl ?_
      refine hw_get (k := 0) (i := 0) (n := 1) (j := 8) (v := .int (f_gI (f_pI (f_pI (f_pI z2 13 a1 8 1) 0 0 7 ((f_gI (f_pI z2 13 a1 8 1) 0 0 7) + (f_gI z2 3 0 (f_ix (f_gI z2 13 a1 7))))) 0 0 9 ((f_gI (f_pI (f_pI z2 13 a1 8 1) 0 0 7 ((f_gI (f_pI z2 13 a1 8 1) 0 0 7) + (f_gI z2 3 0 (f_ix (f_gI z2 13 a1 7))))) 0 0 9) + (f_gI z2 3 0 (f_ix (f_gI z2 13 a1 7))))) 0 0 8)) hx hb hts hown hK hW fl_b_239 rfl (by omega) rfl d_b_pay_59 ?_
      refine lv_iconst (v := 1) hx hb d_b_pay_62 (by decide) ?_
      refine lv_iadd hx hb d_b_pay_63 ?_
      refine hw_put (k := 0) (i := 0) (n := 1) (j := 8) (v := (f_gI (f_pI (f_pI (f_pI z2 13 a1 8 1) 0 0 7 ((f_gI (f_pI z2 13 a1 8 1) 0 0 7) + (f_gI z2 3 0 (f_ix (f_gI z2 13 a1 7))))) 0 0 9 ((f_gI (f_pI (f_pI z2 13 a1 8 1) 0 0 7 ((f_gI (f_pI z2 13 a1 8 1) 0 0 7) + (f_gI z2 3 0 (f_ix (f_gI z2 13 a1 7))))) 0 0 9) + (f_gI z2 3 0 (f_ix (f_gI z2 13 a1 7))))) 0 0 8) + 1) hx hb hts hown hK hLi hW hS fp_b_239 (vp_nar_int _) rfl rfl (by omega) d_b_pay_64 (fun H locs hW hS => ?_)
      exact hw_vret hx hb hr hlk hW hS (by omega) (by omega) d_b_pay_67 hF
    · replace hF := (if_pos h3).symm.trans hF
      exact hw_vret hx hb hr hlk hW hS (by omega) (by omega) d_b_pay_18 hF
set_option maxRecDepth 100000 in
set_option maxHeartbeats 4000000 in
theorem c_be_takeOff_ok (l : Launch) (hl0 : l.stackTraces = false) {L : Nat → Nat → Nat} {Ar : Nat → ClassId} {D : va_G} {b0 : Nat} (hLi : f_L L b0) (a1 : Int32)  (z : fST) (r : Unit) (z' : fST) (hF : F_be_takeOff a1 z = some (r, z')) : f_C l y_be_takeOff wt 1 0 L Ar D b0 [.ref (L 11 0), .int a1] z (.inl none) z' := by
  refine f_ofW (cc := c_be_takeOff) (maxL := 4) (ret := (Option.none : Option Jvm.ClassFile.FieldType)) (by decide) w_be_takeOff (Nat.le_of_ble_eq_true rfl) ?_
  intro p e s m args below meth c R hRf hRl hRc hRs hx hb hr hlk hml hno hts hown hK hZ hsz
  have B19 : ∀  (n : Nat) (x2 : Nat) (x3 : Int32) (z : fST), f_it (b_be_takeOff_19 ) n (x2, x3, z) = some (r, z') → x2 < 16 → f_B p l e R s m args below meth c L Ar D b0 4 0 (f_E below args s L Ar D b0 0 (.inl none) z') 0 19 [(0, .ref (L 11 0)), (2, .ref (L 13 x2)), (3, .int x3)] [] z := by
    intro  n
    induction n with
    | zero => intro x2 x3 z hF; cases hF
    | succ n ih =>
    intro x2 x3 z hF h_x2 H locs ls cells slots hW hS hl hc hs
    replace hF := f_it_s hF
    have K19 : ∀ (x2 : Nat) (x3 : Int32) (z : fST), f_it (b_be_takeOff_19 ) n (x2, x3, z) = some (r, z') → x2 < 16 → f_B p l e R s m args below meth c L Ar D b0 4 0 (f_E below args s L Ar D b0 0 (.inl none) z') 0 19 [(0, .ref (L 11 0)), (2, .ref (L 13 x2)), (3, .int x3)] [] z := fun x2 x3 z hF => ih x2 x3 z hF
    generalize f_it (b_be_takeOff_19 ) n = k19 at hF K19
    unfold b_be_takeOff_19 at hF
    dsimp only at hF
    refine lv_iload_n hx hb d_be_takeOff_19 rfl (lv_at hl 2 rfl) ?_
    refine lv_aload_n hx hb d_be_takeOff_20 rfl (lv_at hl 0 rfl) ?_
    refine hw_get (k := 11) (i := 0) (n := 1) (j := 1) (v := .int (f_gI z 11 0 1)) hx hb hts hown hK hW fl_be_18 rfl (by omega) rfl d_be_takeOff_21 ?_
    refine lv_icmp_ge (tgt := 47) hx hb d_be_takeOff_24 (by decide) (fun h3 => ?_) (fun h3 => ?_)
    · replace hF := (if_pos h3).symm.trans hF
      refine lv_aload_n hx hb d_be_takeOff_47 rfl (lv_at hl 0 rfl) ?_
      refine hw_get (k := 11) (i := 0) (n := 1) (j := 0) (v := .ref (L 12 0)) hx hb hts hown hK hW fl_be_11 rfl (by omega) rfl d_be_takeOff_48 ?_
      refine lv_aload_n hx hb d_be_takeOff_51 rfl (lv_at hl 0 rfl) ?_
      refine hw_get (k := 11) (i := 0) (n := 1) (j := 1) (v := .int (f_gI z 11 0 1)) hx hb hts hown hK hW fl_be_18 rfl (by omega) rfl d_be_takeOff_52 ?_
      refine lv_aload_n hx hb d_be_takeOff_55 rfl (lv_at hl 1 rfl) ?_
      obtain ⟨g4, hF⟩ := f_gd_some hF
      refine hw_rast hx hb hK hLi hW hS (by omega) g4 d_be_takeOff_56 (fun H locs hW hS => ?_)
      exact hw_vret hx hb hr hlk hW hS (by omega) (by omega) d_be_takeOff_57 hF
    · replace hF := (if_neg h3).symm.trans hF
      refine lv_aload_n hx hb d_be_takeOff_27 rfl (lv_at hl 0 rfl) ?_
      refine hw_get (k := 11) (i := 0) (n := 1) (j := 0) (v := .ref (L 12 0)) hx hb hts hown hK hW fl_be_11 rfl (by omega) rfl d_be_takeOff_28 ?_
      refine lv_iload_n hx hb d_be_takeOff_31 rfl (lv_at hl 2 rfl) ?_
      refine lv_aload_n hx hb d_be_takeOff_32 rfl (lv_at hl 0 rfl) ?_
      refine hw_get (k := 11) (i := 0) (n := 1) (j := 0) (v := .ref (L 12 0)) hx hb hts hown hK hW fl_be_11 rfl (by omega) rfl d_be_takeOff_33 ?_
      refine lv_iload_n hx hb d_be_takeOff_36 rfl (lv_at hl 2 rfl) ?_
      refine lv_iconst (v := 1) hx hb d_be_takeOff_37 (by decide) ?_
      refine lv_iadd hx hb d_be_takeOff_38 ?_
      obtain ⟨g5, hF⟩ := f_gd_some hF
      obtain ⟨g6, hF⟩ := f_gd_some hF
      have g6 := of_decide_eq_true g6
      refine hw_rald hx hb hK hW g5 d_be_takeOff_39 ?_
      obtain ⟨g7, hF⟩ := f_gd_some hF
      refine hw_rast hx hb hK hLi hW hS (by omega) g7 d_be_takeOff_40 (fun H locs hW hS => ?_)
      refine lv_iinc (k := 2) (x := x3) (v := x3 + 1) (lv' := [(3, .int (x3 + 1)), (0, .ref (L 11 0)), (2, .ref (L 13 x2))]) hx hb d_be_takeOff_41 hl rfl rfl (by decide) rfl (fun ls hl => ?_)
      refine lv_goto (tgt := 19) hx hb d_be_takeOff_44 (by decide) ?_
      exact K19 x2 (x3 + 1) (f_pR z (f_ix x3) (f_gR z (f_ix (x3 + 1)))) hF (by omega) _ _ _ _ _ hW hS (lv_sub hl [1, 2, 0] rfl) (by omega) (by omega)
  intro H locs ls cells slots hW hS hl hc hs
  have hl : lv_has ls 4 [(0, .ref (L 11 0)), (1, .int a1)] := hl
  unfold F_be_takeOff at hF
  refine lv_aload_n hx hb d_be_takeOff_0 rfl (lv_at hl 0 rfl) ?_
  refine hw_get (k := 11) (i := 0) (n := 1) (j := 0) (v := .ref (L 12 0)) hx hb hts hown hK hW fl_be_11 rfl (by omega) rfl d_be_takeOff_1 ?_
  refine lv_iload_n hx hb d_be_takeOff_4 rfl (lv_at hl 1 rfl) ?_
  obtain ⟨g1, hF⟩ := f_gd_some hF
  obtain ⟨g2, hF⟩ := f_gd_some hF
  have g2 := of_decide_eq_true g2
  refine hw_rald hx hb hK hW g1 d_be_takeOff_5 ?_
  refine lv_astore_n (lv' := [(2, .ref (L 13 (f_gR z (f_ix a1)))), (0, .ref (L 11 0)), (1, .int a1)]) hx hb d_be_takeOff_6 rfl hl (by decide) rfl (fun ls hl => ?_)
  refine lv_aload_n hx hb d_be_takeOff_7 rfl (lv_at hl 1 rfl) ?_
  refine lv_dup hx hb d_be_takeOff_8 rfl ?_
  refine hw_get (k := 11) (i := 0) (n := 1) (j := 1) (v := .int (f_gI z 11 0 1)) hx hb hts hown hK hW fl_be_18 rfl (by omega) rfl d_be_takeOff_9 ?_
  refine lv_iconst (v := 1) hx hb d_be_takeOff_12 (by decide) ?_
  refine lv_isub hx hb d_be_takeOff_13 ?_
  refine hw_put (k := 11) (i := 0) (n := 1) (j := 1) (v := (f_gI z 11 0 1) - 1) hx hb hts hown hK hLi hW hS fp_be_18 (vp_nar_int _) rfl rfl (by omega) d_be_takeOff_14 (fun H locs hW hS => ?_)
  refine lv_iload_n hx hb d_be_takeOff_17 rfl (lv_at hl 2 rfl) ?_
  refine lv_istore_n (lv' := [(3, .int a1), (2, .ref (L 13 (f_gR z (f_ix a1)))), (0, .ref (L 11 0)), (1, .int a1)]) hx hb d_be_takeOff_18 rfl hl (by decide) rfl (fun ls hl => ?_)
  exact B19 2000 (f_gR z (f_ix a1)) a1 (f_pI z 11 0 1 ((f_gI z 11 0 1) - 1)) hF (by omega) _ _ _ _ _ hW hS (lv_sub hl [2, 1, 0] rfl) (by omega) (by omega)
set_option maxRecDepth 100000 in
set_option maxHeartbeats 4000000 in
theorem c_b_intoBin_ok (l : Launch) (hl0 : l.stackTraces = false) {L : Nat → Nat → Nat} {Ar : Nat → ClassId} {D : va_G} {b0 : Nat} (hLi : f_L L b0) (a1 : Int32)  (z : fST) (r : Int32) (z' : fST) (hF : F_b_intoBin a1 z = some (r, z')) : f_C l y_b_intoBin wt 2 0 L Ar D b0 [.ref (L 0 0), .int a1] z (.inl (some (.int r))) z' := by
  refine f_ofW (cc := c_b_intoBin) (maxL := 3) (ret := (some FieldType.boolean)) (by decide) w_b_intoBin (Nat.le_of_ble_eq_true rfl) ?_
  intro p e s m args below meth c R hRf hRl hRc hRs hx hb hr hlk hml hno hts hown hK hZ hsz
  intro H locs ls cells slots hW hS hl hc hs
  have hl : lv_has ls 3 [(0, .ref (L 0 0)), (1, .int a1)] := hl
  unfold F_b_intoBin at hF
  refine lv_aload_n hx hb d_b_intoBin_0 rfl (lv_at hl 0 rfl) ?_
  refine hw_get (k := 0) (i := 0) (n := 1) (j := 1) (v := .ref (L 11 0)) hx hb hts hown hK hW fl_b_19 rfl (by omega) rfl d_b_intoBin_1 ?_
  refine hw_get (k := 11) (i := 0) (n := 1) (j := 0) (v := .ref (L 12 0)) hx hb hts hown hK hW fl_b_232 rfl (by omega) rfl d_b_intoBin_4 ?_
  refine lv_iload_n hx hb d_b_intoBin_7 rfl (lv_at hl 1 rfl) ?_
  obtain ⟨g1, hF⟩ := f_gd_some hF
  obtain ⟨g2, hF⟩ := f_gd_some hF
  have g2 := of_decide_eq_true g2
  refine hw_rald hx hb hK hW g1 d_b_intoBin_8 ?_
  refine hw_get (k := 13) (i := f_gR z (f_ix a1)) (n := 16) (j := 7) (v := .int (f_gI z 13 (f_gR z (f_ix a1)) 7)) hx hb hts hown hK hW fl_b_225 rfl (by omega) rfl d_b_intoBin_9 ?_
  refine lv_istore_n (lv' := [(2, .int (f_gI z 13 (f_gR z (f_ix a1)) 7)), (0, .ref (L 0 0)), (1, .int a1)]) hx hb d_b_intoBin_12 rfl hl (by decide) rfl (fun ls hl => ?_)
  refine lv_iload_n hx hb d_b_intoBin_13 rfl (lv_at hl 0 rfl) ?_
  refine lv_iconst (v := (-1)) hx hb d_b_intoBin_14 (by decide) ?_
  refine lv_icmp_eq (tgt := 28) hx hb d_b_intoBin_15 (by decide) (fun h3 => ?_) (fun h3 => ?_)
  · replace hF := (if_pos h3).symm.trans hF
    refine lv_iconst (v := 0) hx hb d_b_intoBin_28 (by decide) ?_
    exact hw_iret hx hb hr hlk (f_nZ (Or.inl rfl)) hW hS (by omega) (by omega) d_b_intoBin_29 hF
  · replace hF := (if_neg h3).symm.trans hF
    refine lv_aload_n hx hb d_b_intoBin_18 rfl (lv_at hl 1 rfl) ?_
    refine hw_get (k := 0) (i := 0) (n := 1) (j := 4) (v := .ref (L 23 0)) hx hb hts hown hK hW fl_b_40 rfl (by omega) rfl d_b_intoBin_19 ?_
    obtain ⟨v4, z4, hc4, hF⟩ := f_bd_some hF
    refine hw_VR (k := 23) (i := 0) (nk := 1) (As := []) (rest := []) hx hb hml hown hts (c_jo_write_ok l hl0 hLi   _ _ _ hc4) st_b_142 (by decide) rfl (by omega) rfl rfl hK hZ hsz hS hW rfl hl.1 (Nat.le_of_ble_eq_true rfl) d_b_intoBin_22 (by omega) (by omega) (by omega) (by omega) (fun H locs hW hS => ?_)
    refine lv_if_ne (tgt := 30) hx hb d_b_intoBin_25 (by decide) (fun h5 => ?_) (fun h5 => ?_)
    · replace hF := (if_neg h5).symm.trans hF
      refine lv_aload_n hx hb d_b_intoBin_30 rfl (lv_at hl 1 rfl) ?_
      refine hw_get (k := 0) (i := 0) (n := 1) (j := 2) (v := .ref (L 16 0)) hx hb hts hown hK hW fl_b_26 rfl (by omega) rfl d_b_intoBin_31 ?_
      refine hw_get (k := 16) (i := 0) (n := 1) (j := 0) (v := .ref (L 17 0)) hx hb hts hown hK hW fl_b_164 rfl (by omega) rfl d_b_intoBin_34 ?_
      refine lv_aload_n hx hb d_b_intoBin_37 rfl (lv_at hl 1 rfl) ?_
      refine hw_get (k := 0) (i := 0) (n := 1) (j := 0) (v := .ref (L 1 0)) hx hb hts hown hK hW fl_b_12 rfl (by omega) rfl d_b_intoBin_38 ?_
      refine hw_get (k := 1) (i := 0) (n := 1) (j := 2) (v := .ref (L 4 0)) hx hb hts hown hK hW fl_b_295 rfl (by omega) rfl d_b_intoBin_41 ?_
      refine lv_iload_n hx hb d_b_intoBin_44 rfl (lv_at hl 0 rfl) ?_
      obtain ⟨g6, hF⟩ := f_gd_some hF
      refine hw_iald (k := 4) (i := 0) (n := 1) hx hb hK hW (by decide) rfl (by omega) rfl g6 d_b_intoBin_45 ?_
      refine lv_dup2_11 hx hb d_b_intoBin_46 rfl rfl ?_
      obtain ⟨g7, hF⟩ := f_gd_some hF
      refine hw_iald (k := 17) (i := 0) (n := 1) hx hb hK hW (by decide) rfl (by omega) rfl g7 d_b_intoBin_47 ?_
      refine lv_iconst (v := 1) hx hb d_b_intoBin_48 (by decide) ?_
      refine lv_iadd hx hb d_b_intoBin_49 ?_
      obtain ⟨g8, hF⟩ := f_gd_some hF
      refine hw_iast (k := 17) (i := 0) (n := 1) hx hb hK hLi hW hS (by decide) rfl (by omega) rfl g8 d_b_intoBin_50 (fun H locs hW hS => ?_)
      refine lv_aload_n hx hb d_b_intoBin_51 rfl (lv_at hl 1 rfl) ?_
      refine hw_get (k := 0) (i := 0) (n := 1) (j := 1) (v := .ref (L 11 0)) hx hb hts hown hK hW fl_b_19 rfl (by omega) rfl d_b_intoBin_52 ?_
      refine lv_iload_n hx hb d_b_intoBin_55 rfl (lv_at hl 2 rfl) ?_
      obtain ⟨v9, z9, hc9, hF⟩ := f_bd_some hF
      refine hw_VR (k := 11) (i := 0) (nk := 1) (As := [.int a1]) (rest := []) hx hb hml hown hts (c_be_takeOff_ok l hl0 hLi a1  _ _ _ hc9) st_b_307 (by decide) rfl (by omega) rfl rfl hK hZ hsz hS hW rfl hl.1 (Nat.le_of_ble_eq_true rfl) d_b_intoBin_56 (by omega) (by omega) (by omega) (by omega) (fun H locs hW hS => ?_)
      refine lv_aload_n hx hb d_b_intoBin_59 rfl (lv_at hl 1 rfl) ?_
      refine lv_iconst (v := 0) hx hb d_b_intoBin_60 (by decide) ?_
      refine hw_put (k := 0) (i := 0) (n := 1) (j := 11) (v := 0) hx hb hts hown hK hLi hW hS fp_b_133 (vp_nar_int _) rfl rfl (by omega) d_b_intoBin_61 (fun H locs hW hS => ?_)
      refine lv_iconst (v := 1) hx hb d_b_intoBin_64 (by decide) ?_
      exact hw_iret hx hb hr hlk (f_nZ (Or.inr rfl)) hW hS (by omega) (by omega) d_b_intoBin_65 hF
    · replace hF := (if_pos h5).symm.trans hF
      refine lv_iconst (v := 0) hx hb d_b_intoBin_28 (by decide) ?_
      exact hw_iret hx hb hr hlk (f_nZ (Or.inl rfl)) hW hS (by omega) (by omega) d_b_intoBin_29 hF
