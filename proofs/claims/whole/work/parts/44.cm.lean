/-! contracts: the method does what its pure function says -/
set_option maxRecDepth 100000 in
set_option maxHeartbeats 4000000 in
theorem c_m_voucher_ok (l : Launch) (hl0 : l.stackTraces = false) {L : Nat → Nat → Nat} {Ar : Nat → ClassId} {D : va_G} {b0 : Nat} (hLi : f_L L b0)   (z : fST) (r : Int32) (z' : fST) (hF : F_m_voucher  z = some (r, z')) : f_C l y_m_voucher wt 2 0 L Ar D b0 [.ref (L 30 0)] z (.inl (some (.int r))) z' := by
  refine f_ofW (cc := c_m_voucher) (maxL := 1) (ret := (some FieldType.int)) (by decide) w_m_voucher (Nat.le_of_ble_eq_true rfl) ?_
  intro p e s m args below meth c R hRf hRl hRc hRs hx hb hr hlk hml hno hts hown hK hZ hsz
  intro H locs ls cells slots hW hS hl hc hs
  have hl : lv_has ls 1 [(0, .ref (L 30 0))] := hl
  unfold F_m_voucher at hF
  refine lv_aload_n hx hb d_m_voucher_0 rfl (lv_at hl 0 rfl) ?_
  refine lv_aload_n hx hb d_m_voucher_1 rfl (lv_at hl 0 rfl) ?_
  refine hw_get (k := 30) (i := 0) (n := 1) (j := 17) (v := .int (f_gI z 30 0 17)) hx hb hts hown hK hW fl_m_55 rfl (by omega) rfl d_m_voucher_2 ?_
  refine lv_iconst (v := 1) hx hb d_m_voucher_5 (by decide) ?_
  obtain ⟨v1, z1, hc1, hF⟩ := f_bd_some hF
  refine hw_VR (k := 30) (i := 0) (nk := 1) (As := [.int (f_gI z 30 0 17), .int 1]) (rest := []) hx hb hml hown hts (c_m_fails_ok l hl0 hLi (f_gI z 30 0 17) 1  _ _ _ hc1) st_m_59 (by decide) rfl (by omega) rfl rfl hK hZ hsz hS hW rfl hl.1 (Nat.le_of_ble_eq_true rfl) d_m_voucher_6 (by omega) (by omega) (by omega) (by omega) (fun H locs hW hS => ?_)
  refine lv_if_eq (tgt := 14) hx hb d_m_voucher_9 (by decide) (fun h2 => ?_) (fun h2 => ?_)
  · replace hF := (if_pos h2).symm.trans hF
    refine lv_aload_n hx hb d_m_voucher_14 rfl (lv_at hl 0 rfl) ?_
    refine hw_get (k := 30) (i := 0) (n := 1) (j := 8) (v := .int (f_gI z1 30 0 8)) hx hb hts hown hK hW fl_m_110 rfl (by omega) rfl d_m_voucher_15 ?_
    refine lv_if_eq (tgt := 37) hx hb d_m_voucher_18 (by decide) (fun h3 => ?_) (fun h3 => ?_)
    · replace hF := (if_pos h3).symm.trans hF
      refine lv_iconst (v := 0) hx hb d_m_voucher_37 (by decide) ?_
      exact hw_iret hx hb hr hlk (vp_nar_int _) hW hS (by omega) (by omega) d_m_voucher_38 hF
    · replace hF := (if_neg h3).symm.trans hF
      refine lv_aload_n hx hb d_m_voucher_21 rfl (lv_at hl 0 rfl) ?_
      refine hw_get (k := 30) (i := 0) (n := 1) (j := 12) (v := .int (f_gI z1 30 0 12)) hx hb hts hown hK hW fl_m_94 rfl (by omega) rfl d_m_voucher_22 ?_
      refine lv_bipush (v := 60) hx hb d_m_voucher_25 (by decide) ?_
      refine lv_icmp_eq (tgt := 37) hx hb d_m_voucher_27 (by decide) (fun h4 => ?_) (fun h4 => ?_)
      · replace hF := (if_pos h4).symm.trans hF
        refine lv_iconst (v := 0) hx hb d_m_voucher_37 (by decide) ?_
        exact hw_iret hx hb hr hlk (vp_nar_int _) hW hS (by omega) (by omega) d_m_voucher_38 hF
      · replace hF := (if_neg h4).symm.trans hF
        refine lv_aload_n hx hb d_m_voucher_30 rfl (lv_at hl 0 rfl) ?_
        obtain ⟨v5, z5, hc5, hF⟩ := f_bd_some hF
        refine hw_VR (k := 30) (i := 0) (nk := 1) (As := []) (rest := []) hx hb hml hown hts (c_m_writes_ok l hl0 hLi   _ _ _ hc5) st_m_107 (by decide) rfl (by omega) rfl rfl hK hZ hsz hS hW rfl hl.1 (Nat.le_of_ble_eq_true rfl) d_m_voucher_31 (by omega) (by omega) (by omega) (by omega) (fun H locs hW hS => ?_)
        refine lv_if_ne (tgt := 39) hx hb d_m_voucher_34 (by decide) (fun h6 => ?_) (fun h6 => ?_)
        · replace hF := (if_neg h6).symm.trans hF
          refine lv_aload_n hx hb d_m_voucher_39 rfl (lv_at hl 0 rfl) ?_
          refine lv_dup hx hb d_m_voucher_40 rfl ?_
          refine hw_get (k := 30) (i := 0) (n := 1) (j := 13) (v := .int (f_gI z5 30 0 13)) hx hb hts hown hK hW fl_m_139 rfl (by omega) rfl d_m_voucher_41 ?_
          refine lv_iconst (v := 1) hx hb d_m_voucher_44 (by decide) ?_
          refine lv_iadd hx hb d_m_voucher_45 ?_
          refine hw_put (k := 30) (i := 0) (n := 1) (j := 13) (v := (f_gI z5 30 0 13) + 1) hx hb hts hown hK hLi hW hS fp_m_139 (vp_nar_int _) rfl rfl (by omega) d_m_voucher_46 (fun H locs hW hS => ?_)
          refine lv_aload_n hx hb d_m_voucher_49 rfl (lv_at hl 0 rfl) ?_
          refine hw_get (k := 30) (i := 0) (n := 1) (j := 9) (v := .ref (L 37 0)) hx hb hts hown hK hW fl_m_28 rfl (by omega) rfl d_m_voucher_50 ?_
          refine lv_aload_n hx hb d_m_voucher_53 rfl (lv_at hl 0 rfl) ?_
          refine hw_get (k := 30) (i := 0) (n := 1) (j := 12) (v := .int (f_gI (f_pI z5 30 0 13 ((f_gI z5 30 0 13) + 1)) 30 0 12)) hx hb hts hown hK hW fl_m_94 rfl (by omega) rfl d_m_voucher_54 ?_
          refine lv_aload_n hx hb d_m_voucher_57 rfl (lv_at hl 0 rfl) ?_
          refine hw_get (k := 30) (i := 0) (n := 1) (j := 13) (v := .int (f_gI (f_pI z5 30 0 13 ((f_gI z5 30 0 13) + 1)) 30 0 13)) hx hb hts hown hK hW fl_m_139 rfl (by omega) rfl d_m_voucher_58 ?_
          obtain ⟨g7, hF⟩ := f_gd_some hF
          refine hw_iast (k := 37) (i := 0) (n := 1) hx hb hK hLi hW hS (by decide) rfl (by omega) rfl g7 d_m_voucher_61 (fun H locs hW hS => ?_)
          refine lv_aload_n hx hb d_m_voucher_62 rfl (lv_at hl 0 rfl) ?_
          refine hw_get (k := 30) (i := 0) (n := 1) (j := 10) (v := .ref (L 38 0)) hx hb hts hown hK hW fl_m_31 rfl (by omega) rfl d_m_voucher_63 ?_
          refine lv_aload_n hx hb d_m_voucher_66 rfl (lv_at hl 0 rfl) ?_
          refine hw_get (k := 30) (i := 0) (n := 1) (j := 12) (v := .int (f_gI (f_pI (f_pI z5 30 0 13 ((f_gI z5 30 0 13) + 1)) 37 0 (f_ix (f_gI (f_pI z5 30 0 13 ((f_gI z5 30 0 13) + 1)) 30 0 12)) (f_gI (f_pI z5 30 0 13 ((f_gI z5 30 0 13) + 1)) 30 0 13)) 30 0 12)) hx hb hts hown hK hW fl_m_94 rfl (by omega) rfl d_m_voucher_67 ?_
          refine lv_aload_n hx hb d_m_voucher_70 rfl (lv_at hl 0 rfl) ?_
          refine hw_get (k := 30) (i := 0) (n := 1) (j := 8) (v := .int (f_gI (f_pI (f_pI z5 30 0 13 ((f_gI z5 30 0 13) + 1)) 37 0 (f_ix (f_gI (f_pI z5 30 0 13 ((f_gI z5 30 0 13) + 1)) 30 0 12)) (f_gI (f_pI z5 30 0 13 ((f_gI z5 30 0 13) + 1)) 30 0 13)) 30 0 8)) hx hb hts hown hK hW fl_m_110 rfl (by omega) rfl d_m_voucher_71 ?_
          obtain ⟨g8, hF⟩ := f_gd_some hF
          refine hw_iast (k := 38) (i := 0) (n := 1) hx hb hK hLi hW hS (by decide) rfl (by omega) rfl g8 d_m_voucher_74 (fun H locs hW hS => ?_)
          refine lv_aload_n hx hb d_m_voucher_75 rfl (lv_at hl 0 rfl) ?_
          refine hw_get (k := 30) (i := 0) (n := 1) (j := 11) (v := .ref (L 39 0)) hx hb hts hown hK hW fl_m_34 rfl (by omega) rfl d_m_voucher_76 ?_
          refine lv_aload_n hx hb d_m_voucher_79 rfl (lv_at hl 0 rfl) ?_
          refine hw_get (k := 30) (i := 0) (n := 1) (j := 12) (v := .int (f_gI (f_pI (f_pI (f_pI z5 30 0 13 ((f_gI z5 30 0 13) + 1)) 37 0 (f_ix (f_gI (f_pI z5 30 0 13 ((f_gI z5 30 0 13) + 1)) 30 0 12)) (f_gI (f_pI z5 30 0 13 ((f_gI z5 30 0 13) + 1)) 30 0 13)) 38 0 (f_ix (f_gI (f_pI (f_pI z5 30 0 13 ((f_gI z5 30 0 13) + 1)) 37 0 (f_ix (f_gI (f_pI z5 30 0 13 ((f_gI z5 30 0 13) + 1)) 30 0 12)) (f_gI (f_pI z5 30 0 13 ((f_gI z5 30 0 13) + 1)) 30 0 13)) 30 0 12)) (f_gI (f_pI (f_pI z5 30 0 13 ((f_gI z5 30 0 13) + 1)) 37 0 (f_ix (f_gI (f_pI z5 30 0 13 ((f_gI z5 30 0 13) + 1)) 30 0 12)) (f_gI (f_pI z5 30 0 13 ((f_gI z5 30 0 13) + 1)) 30 0 13)) 30 0 8)) 30 0 12)) hx hb hts hown hK hW fl_m_94 rfl (by omega) rfl d_m_voucher_80 ?_
          refine lv_iconst (v := 0) hx hb d_m_voucher_83 (by decide) ?_
          obtain ⟨g9, hF⟩ := f_gd_some hF
          refine hw_zast (k := 39) (i := 0) (n := 1) hx hb hK hLi hW hS (by decide) rfl (by omega) rfl g9 (Or.inl rfl) d_m_voucher_84 (fun H locs hW hS => ?_)
          refine lv_aload_n hx hb d_m_voucher_85 rfl (lv_at hl 0 rfl) ?_
          refine lv_dup hx hb d_m_voucher_86 rfl ?_
          refine hw_get (k := 30) (i := 0) (n := 1) (j := 12) (v := .int (f_gI (f_pI (f_pI (f_pI (f_pI z5 30 0 13 ((f_gI z5 30 0 13) + 1)) 37 0 (f_ix (f_gI (f_pI z5 30 0 13 ((f_gI z5 30 0 13) + 1)) 30 0 12)) (f_gI (f_pI z5 30 0 13 ((f_gI z5 30 0 13) + 1)) 30 0 13)) 38 0 (f_ix (f_gI (f_pI (f_pI z5 30 0 13 ((f_gI z5 30 0 13) + 1)) 37 0 (f_ix (f_gI (f_pI z5 30 0 13 ((f_gI z5 30 0 13) + 1)) 30 0 12)) (f_gI (f_pI z5 30 0 13 ((f_gI z5 30 0 13) + 1)) 30 0 13)) 30 0 12)) (f_gI (f_pI (f_pI z5 30 0 13 ((f_gI z5 30 0 13) + 1)) 37 0 (f_ix (f_gI (f_pI z5 30 0 13 ((f_gI z5 30 0 13) + 1)) 30 0 12)) (f_gI (f_pI z5 30 0 13 ((f_gI z5 30 0 13) + 1)) 30 0 13)) 30 0 8)) 39 0 (f_ix (f_gI (f_pI (f_pI (f_pI z5 30 0 13 ((f_gI z5 30 0 13) + 1)) 37 0 (f_ix (f_gI (f_pI z5 30 0 13 ((f_gI z5 30 0 13) + 1)) 30 0 12)) (f_gI (f_pI z5 30 0 13 ((f_gI z5 30 0 13) + 1)) 30 0 13)) 38 0 (f_ix (f_gI (f_pI (f_pI z5 30 0 13 ((f_gI z5 30 0 13) + 1)) 37 0 (f_ix (f_gI (f_pI z5 30 0 13 ((f_gI z5 30 0 13) + 1)) 30 0 12)) (f_gI (f_pI z5 30 0 13 ((f_gI z5 30 0 13) + 1)) 30 0 13)) 30 0 12)) (f_gI (f_pI (f_pI z5 30 0 13 ((f_gI z5 30 0 13) + 1)) 37 0 (f_ix (f_gI (f_pI z5 30 0 13 ((f_gI z5 30 0 13) + 1)) 30 0 12)) (f_gI (f_pI z5 30 0 13 ((f_gI z5 30 0 13) + 1)) 30 0 13)) 30 0 8)) 30 0 12)) 0) 30 0 12)) hx hb hts hown hK hW fl_m_94 rfl (by omega) rfl d_m_voucher_87 ?_
          refine lv_iconst (v := 1) hx hb d_m_voucher_90 (by decide) ?_
          refine lv_iadd hx hb d_m_voucher_91 ?_
          refine hw_put (k := 30) (i := 0) (n := 1) (j := 12) (v := (f_gI (f_pI (f_pI (f_pI (f_pI z5 30 0 13 ((f_gI z5 30 0 13) + 1)) 37 0 (f_ix (f_gI (f_pI z5 30 0 13 ((f_gI z5 30 0 13) + 1)) 30 0 12)) (f_gI (f_pI z5 30 0 13 ((f_gI z5 30 0 13) + 1)) 30 0 13)) 38 0 (f_ix (f_gI (f_pI (f_pI z5 30 0 13 ((f_gI z5 30 0 13) + 1)) 37 0 (f_ix (f_gI (f_pI z5 30 0 13 ((f_gI z5 30 0 13) + 1)) 30 0 12)) (f_gI (f_pI z5 30 0 13 ((f_gI z5 30 0 13) + 1)) 30 0 13)) 30 0 12)) (f_gI (f_pI (f_pI z5 30 0 13 ((f_gI z5 30 0 13) + 1)) 37 0 (f_ix (f_gI (f_pI z5 30 0 13 ((f_gI z5 30 0 13) + 1)) 30 0 12)) (f_gI (f_pI z5 30 0 13 ((f_gI z5 30 0 13) + 1)) 30 0 13)) 30 0 8)) 39 0 (f_ix (f_gI (f_pI (f_pI (f_pI z5 30 0 13 ((f_gI z5 30 0 13) + 1)) 37 0 (f_ix (f_gI (f_pI z5 30 0 13 ((f_gI z5 30 0 13) + 1)) 30 0 12)) (f_gI (f_pI z5 30 0 13 ((f_gI z5 30 0 13) + 1)) 30 0 13)) 38 0 (f_ix (f_gI (f_pI (f_pI z5 30 0 13 ((f_gI z5 30 0 13) + 1)) 37 0 (f_ix (f_gI (f_pI z5 30 0 13 ((f_gI z5 30 0 13) + 1)) 30 0 12)) (f_gI (f_pI z5 30 0 13 ((f_gI z5 30 0 13) + 1)) 30 0 13)) 30 0 12)) (f_gI (f_pI (f_pI z5 30 0 13 ((f_gI z5 30 0 13) + 1)) 37 0 (f_ix (f_gI (f_pI z5 30 0 13 ((f_gI z5 30 0 13) + 1)) 30 0 12)) (f_gI (f_pI z5 30 0 13 ((f_gI z5 30 0 13) + 1)) 30 0 13)) 30 0 8)) 30 0 12)) 0) 30 0 12) + 1) hx hb hts hown hK hLi hW hS fp_m_94 (vp_nar_int _) rfl rfl (by omega) d_m_voucher_92 (fun H locs hW hS => ?_)
          refine lv_aload_n hx hb d_m_voucher_95 rfl (lv_at hl 0 rfl) ?_
          refine lv_dup hx hb d_m_voucher_96 rfl ?_
          refine hw_get (k := 30) (i := 0) (n := 1) (j := 23) (v := .int (f_gI (f_pI (f_pI (f_pI (f_pI (f_pI z5 30 0 13 ((f_gI z5 30 0 13) + 1)) 37 0 (f_ix (f_gI (f_pI z5 30 0 13 ((f_gI z5 30 0 13) + 1)) 30 0 12)) (f_gI (f_pI z5 30 0 13 ((f_gI z5 30 0 13) + 1)) 30 0 13)) 38 0 (f_ix (f_gI (f_pI (f_pI z5 30 0 13 ((f_gI z5 30 0 13) + 1)) 37 0 (f_ix (f_gI (f_pI z5 30 0 13 ((f_gI z5 30 0 13) + 1)) 30 0 12)) (f_gI (f_pI z5 30 0 13 ((f_gI z5 30 0 13) + 1)) 30 0 13)) 30 0 12)) (f_gI (f_pI (f_pI z5 30 0 13 ((f_gI z5 30 0 13) + 1)) 37 0 (f_ix (f_gI (f_pI z5 30 0 13 ((f_gI z5 30 0 13) + 1)) 30 0 12)) (f_gI (f_pI z5 30 0 13 ((f_gI z5 30 0 13) + 1)) 30 0 13)) 30 0 8)) 39 0 (f_ix (f_gI (f_pI (f_pI (f_pI z5 30 0 13 ((f_gI z5 30 0 13) + 1)) 37 0 (f_ix (f_gI (f_pI z5 30 0 13 ((f_gI z5 30 0 13) + 1)) 30 0 12)) (f_gI (f_pI z5 30 0 13 ((f_gI z5 30 0 13) + 1)) 30 0 13)) 38 0 (f_ix (f_gI (f_pI (f_pI z5 30 0 13 ((f_gI z5 30 0 13) + 1)) 37 0 (f_ix (f_gI (f_pI z5 30 0 13 ((f_gI z5 30 0 13) + 1)) 30 0 12)) (f_gI (f_pI z5 30 0 13 ((f_gI z5 30 0 13) + 1)) 30 0 13)) 30 0 12)) (f_gI (f_pI (f_pI z5 30 0 13 ((f_gI z5 30 0 13) + 1)) 37 0 (f_ix (f_gI (f_pI z5 30 0 13 ((f_gI z5 30 0 13) + 1)) 30 0 12)) (f_gI (f_pI z5 30 0 13 ((f_gI z5 30 0 13) + 1)) 30 0 13)) 30 0 8)) 30 0 12)) 0) 30 0 12 ((f_gI (f_pI (f_pI (f_pI (f_pI z5 30 0 13 ((f_gI z5 30 0 13) + 1)) 37 0 (f_ix (f_gI (f_pI z5 30 0 13 ((f_gI z5 30 0 13) + 1)) 30 0 12)) (f_gI (f_pI z5 30 0 13 ((f_gI z5 30 0 13) + 1)) 30 0 13)) 38 0 (f_ix (f_gI (f_pI (f_pI z5 30 0 13 ((f_gI z5 30 0 13) + 1)) 37 0 (f_ix (f_gI (f_pI z5 30 0 13 ((f_gI z5 30 0 13) + 1)) 30 0 12)) (f_gI (f_pI z5 30 0 13 ((f_gI z5 30 0 13) + 1)) 30 0 13)) 30 0 12)) (f_gI (f_pI (f_pI z5 30 0 13 ((f_gI z5 30 0 13) + 1)) 37 0 (f_ix (f_gI (f_pI z5 30 0 13 ((f_gI z5 30 0 13) + 1)) 30 0 12)) (f_gI (f_pI z5 30 0 13 ((f_gI z5 30 0 13) + 1)) 30 0 13)) 30 0 8)) 39 0 (f_ix (f_gI (f_pI (f_pI (f_pI z5 30 0 13 ((f_gI z5 30 0 13) + 1)) 37 0 (f_ix (f_gI (f_pI z5 30 0 13 ((f_gI z5 30 0 13) + 1)) 30 0 12)) (f_gI (f_pI z5 30 0 13 ((f_gI z5 30 0 13) + 1)) 30 0 13)) 38 0 (f_ix (f_gI (f_pI (f_pI z5 30 0 13 ((f_gI z5 30 0 13) + 1)) 37 0 (f_ix (f_gI (f_pI z5 30 0 13 ((f_gI z5 30 0 13) + 1)) 30 0 12)) (f_gI (f_pI z5 30 0 13 ((f_gI z5 30 0 13) + 1)) 30 0 13)) 30 0 12)) (f_gI (f_pI (f_pI z5 30 0 13 ((f_gI z5 30 0 13) + 1)) 37 0 (f_ix (f_gI (f_pI z5 30 0 13 ((f_gI z5 30 0 13) + 1)) 30 0 12)) (f_gI (f_pI z5 30 0 13 ((f_gI z5 30 0 13) + 1)) 30 0 13)) 30 0 8)) 30 0 12)) 0) 30 0 12) + 1)) 30 0 23)) hx hb hts hown hK hW fl_m_142 rfl (by omega) rfl d_m_voucher_97 ?_
          refine lv_aload_n hx hb d_m_voucher_100 rfl (lv_at hl 0 rfl) ?_
          refine hw_get (k := 30) (i := 0) (n := 1) (j := 8) (v := .int (f_gI (f_pI (f_pI (f_pI (f_pI (f_pI z5 30 0 13 ((f_gI z5 30 0 13) + 1)) 37 0 (f_ix (f_gI (f_pI z5 30 0 13 ((f_gI z5 30 0 13) + 1)) 30 0 12)) (f_gI (f_pI z5 30 0 13 ((f_gI z5 30 0 13) + 1)) 30 0 13)) 38 0 (f_ix (f_gI (f_pI (f_pI z5 30 0 13 ((f_gI z5 30 0 13) + 1)) 37 0 (f_ix (f_gI (f_pI z5 30 0 13 ((f_gI z5 30 0 13) + 1)) 30 0 12)) (f_gI (f_pI z5 30 0 13 ((f_gI z5 30 0 13) + 1)) 30 0 13)) 30 0 12)) (f_gI (f_pI (f_pI z5 30 0 13 ((f_gI z5 30 0 13) + 1)) 37 0 (f_ix (f_gI (f_pI z5 30 0 13 ((f_gI z5 30 0 13) + 1)) 30 0 12)) (f_gI (f_pI z5 30 0 13 ((f_gI z5 30 0 13) + 1)) 30 0 13)) 30 0 8)) 39 0 (f_ix (f_gI (f_pI (f_pI (f_pI z5 30 0 13 ((f_gI z5 30 0 13) + 1)) 37 0 (f_ix (f_gI (f_pI z5 30 0 13 ((f_gI z5 30 0 13) + 1)) 30 0 12)) (f_gI (f_pI z5 30 0 13 ((f_gI z5 30 0 13) + 1)) 30 0 13)) 38 0 (f_ix (f_gI (f_pI (f_pI z5 30 0 13 ((f_gI z5 30 0 13) + 1)) 37 0 (f_ix (f_gI (f_pI z5 30 0 13 ((f_gI z5 30 0 13) + 1)) 30 0 12)) (f_gI (f_pI z5 30 0 13 ((f_gI z5 30 0 13) + 1)) 30 0 13)) 30 0 12)) (f_gI (f_pI (f_pI z5 30 0 13 ((f_gI z5 30 0 13) + 1)) 37 0 (f_ix (f_gI (f_pI z5 30 0 13 ((f_gI z5 30 0 13) + 1)) 30 0 12)) (f_gI (f_pI z5 30 0 13 ((f_gI z5 30 0 13) + 1)) 30 0 13)) 30 0 8)) 30 0 12)) 0) 30 0 12 ((f_gI (f_pI (f_pI (f_pI (f_pI z5 30 0 13 ((f_gI z5 30 0 13) + 1)) 37 0 (f_ix (f_gI (f_pI z5 30 0 13 ((f_gI z5 30 0 13) + 1)) 30 0 12)) (f_gI (f_pI z5 30 0 13 ((f_gI z5 30 0 13) + 1)) 30 0 13)) 38 0 (f_ix (f_gI (f_pI (f_pI z5 30 0 13 ((f_gI z5 30 0 13) + 1)) 37 0 (f_ix (f_gI (f_pI z5 30 0 13 ((f_gI z5 30 0 13) + 1)) 30 0 12)) (f_gI (f_pI z5 30 0 13 ((f_gI z5 30 0 13) + 1)) 30 0 13)) 30 0 12)) (f_gI (f_pI (f_pI z5 30 0 13 ((f_gI z5 30 0 13) + 1)) 37 0 (f_ix (f_gI (f_pI z5 30 0 13 ((f_gI z5 30 0 13) + 1)) 30 0 12)) (f_gI (f_pI z5 30 0 13 ((f_gI z5 30 0 13) + 1)) 30 0 13)) 30 0 8)) 39 0 (f_ix (f_gI (f_pI (f_pI (f_pI z5 30 0 13 ((f_gI z5 30 0 13) + 1)) 37 0 (f_ix (f_gI (f_pI z5 30 0 13 ((f_gI z5 30 0 13) + 1)) 30 0 12)) (f_gI (f_pI z5 30 0 13 ((f_gI z5 30 0 13) + 1)) 30 0 13)) 38 0 (f_ix (f_gI (f_pI (f_pI z5 30 0 13 ((f_gI z5 30 0 13) + 1)) 37 0 (f_ix (f_gI (f_pI z5 30 0 13 ((f_gI z5 30 0 13) + 1)) 30 0 12)) (f_gI (f_pI z5 30 0 13 ((f_gI z5 30 0 13) + 1)) 30 0 13)) 30 0 12)) (f_gI (f_pI (f_pI z5 30 0 13 ((f_gI z5 30 0 13) + 1)) 37 0 (f_ix (f_gI (f_pI z5 30 0 13 ((f_gI z5 30 0 13) + 1)) 30 0 12)) (f_gI (f_pI z5 30 0 13 ((f_gI z5 30 0 13) + 1)) 30 0 13)) 30 0 8)) 30 0 12)) 0) 30 0 12) + 1)) 30 0 8)) hx hb hts hown hK hW fl_m_110 rfl (by omega) rfl d_m_voucher_101 ?_
          refine lv_iadd hx hb d_m_voucher_104 ?_
          refine hw_put (k := 30) (i := 0) (n := 1) (j := 23) (v := (f_gI (f_pI (f_pI (f_pI (f_pI (f_pI z5 30 0 13 ((f_gI z5 30 0 13) + 1)) 37 0 (f_ix (f_gI (f_pI z5 30 0 13 ((f_gI z5 30 0 13) + 1)) 30 0 12)) (f_gI (f_pI z5 30 0 13 ((f_gI z5 30 0 13) + 1)) 30 0 13)) 38 0 (f_ix (f_gI (f_pI (f_pI z5 30 0 13 ((f_gI z5 30 0 13) + 1)) 37 0 (f_ix (f_gI (f_pI z5 30 0 13 ((f_gI z5 30 0 13) + 1)) 30 0 12)) (f_gI (f_pI z5 30 0 13 ((f_gI z5 30 0 13) + 1)) 30 0 13)) 30 0 12)) (f_gI (f_pI (f_pI z5 30 0 13 ((f_gI z5 30 0 13) + 1)) 37 0 (f_ix (f_gI (f_pI z5 30 0 13 ((f_gI z5 30 0 13) + 1)) 30 0 12)) (f_gI (f_pI z5 30 0 13 ((f_gI z5 30 0 13) + 1)) 30 0 13)) 30 0 8)) 39 0 (f_ix (f_gI (f_pI (f_pI (f_pI z5 30 0 13 ((f_gI z5 30 0 13) + 1)) 37 0 (f_ix (f_gI (f_pI z5 30 0 13 ((f_gI z5 30 0 13) + 1)) 30 0 12)) (f_gI (f_pI z5 30 0 13 ((f_gI z5 30 0 13) + 1)) 30 0 13)) 38 0 (f_ix (f_gI (f_pI (f_pI z5 30 0 13 ((f_gI z5 30 0 13) + 1)) 37 0 (f_ix (f_gI (f_pI z5 30 0 13 ((f_gI z5 30 0 13) + 1)) 30 0 12)) (f_gI (f_pI z5 30 0 13 ((f_gI z5 30 0 13) + 1)) 30 0 13)) 30 0 12)) (f_gI (f_pI (f_pI z5 30 0 13 ((f_gI z5 30 0 13) + 1)) 37 0 (f_ix (f_gI (f_pI z5 30 0 13 ((f_gI z5 30 0 13) + 1)) 30 0 12)) (f_gI (f_pI z5 30 0 13 ((f_gI z5 30 0 13) + 1)) 30 0 13)) 30 0 8)) 30 0 12)) 0) 30 0 12 ((f_gI (f_pI (f_pI (f_pI (f_pI z5 30 0 13 ((f_gI z5 30 0 13) + 1)) 37 0 (f_ix (f_gI (f_pI z5 30 0 13 ((f_gI z5 30 0 13) + 1)) 30 0 12)) (f_gI (f_pI z5 30 0 13 ((f_gI z5 30 0 13) + 1)) 30 0 13)) 38 0 (f_ix (f_gI (f_pI (f_pI z5 30 0 13 ((f_gI z5 30 0 13) + 1)) 37 0 (f_ix (f_gI (f_pI z5 30 0 13 ((f_gI z5 30 0 13) + 1)) 30 0 12)) (f_gI (f_pI z5 30 0 13 ((f_gI z5 30 0 13) + 1)) 30 0 13)) 30 0 12)) (f_gI (f_pI (f_pI z5 30 0 13 ((f_gI z5 30 0 13) + 1)) 37 0 (f_ix (f_gI (f_pI z5 30 0 13 ((f_gI z5 30 0 13) + 1)) 30 0 12)) (f_gI (f_pI z5 30 0 13 ((f_gI z5 30 0 13) + 1)) 30 0 13)) 30 0 8)) 39 0 (f_ix (f_gI (f_pI (f_pI (f_pI z5 30 0 13 ((f_gI z5 30 0 13) + 1)) 37 0 (f_ix (f_gI (f_pI z5 30 0 13 ((f_gI z5 30 0 13) + 1)) 30 0 12)) (f_gI (f_pI z5 30 0 13 ((f_gI z5 30 0 13) + 1)) 30 0 13)) 38 0 (f_ix (f_gI (f_pI (f_pI z5 30 0 13 ((f_gI z5 30 0 13) + 1)) 37 0 (f_ix (f_gI (f_pI z5 30 0 13 ((f_gI z5 30 0 13) + 1)) 30 0 12)) (f_gI (f_pI z5 30 0 13 ((f_gI z5 30 0 13) + 1)) 30 0 13)) 30 0 12)) (f_gI (f_pI (f_pI z5 30 0 13 ((f_gI z5 30 0 13) + 1)) 37 0 (f_ix (f_gI (f_pI z5 30 0 13 ((f_gI z5 30 0 13) + 1)) 30 0 12)) (f_gI (f_pI z5 30 0 13 ((f_gI z5 30 0 13) + 1)) 30 0 13)) 30 0 8)) 30 0 12)) 0) 30 0 12) + 1)) 30 0 23) + (f_gI (f_pI (f_pI (f_pI (f_pI (f_pI z5 30 0 13 ((f_gI z5 30 0 13) + 1)) 37 0 (f_ix (f_gI (f_pI z5 30 0 13 ((f_gI z5 30 0 13) + 1)) 30 0 12)) (f_gI (f_pI z5 30 0 13 ((f_gI z5 30 0 13) + 1)) 30 0 13)) 38 0 (f_ix (f_gI (f_pI (f_pI z5 30 0 13 ((f_gI z5 30 0 13) + 1)) 37 0 (f_ix (f_gI (f_pI z5 30 0 13 ((f_gI z5 30 0 13) + 1)) 30 0 12)) (f_gI (f_pI z5 30 0 13 ((f_gI z5 30 0 13) + 1)) 30 0 13)) 30 0 12)) (f_gI (f_pI (f_pI z5 30 0 13 ((f_gI z5 30 0 13) + 1)) 37 0 (f_ix (f_gI (f_pI z5 30 0 13 ((f_gI z5 30 0 13) + 1)) 30 0 12)) (f_gI (f_pI z5 30 0 13 ((f_gI z5 30 0 13) + 1)) 30 0 13)) 30 0 8)) 39 0 (f_ix (f_gI (f_pI (f_pI (f_pI z5 30 0 13 ((f_gI z5 30 0 13) + 1)) 37 0 (f_ix (f_gI (f_pI z5 30 0 13 ((f_gI z5 30 0 13) + 1)) 30 0 12)) (f_gI (f_pI z5 30 0 13 ((f_gI z5 30 0 13) + 1)) 30 0 13)) 38 0 (f_ix (f_gI (f_pI (f_pI z5 30 0 13 ((f_gI z5 30 0 13) + 1)) 37 0 (f_ix (f_gI (f_pI z5 30 0 13 ((f_gI z5 30 0 13) + 1)) 30 0 12)) (f_gI (f_pI z5 30 0 13 ((f_gI z5 30 0 13) + 1)) 30 0 13)) 30 0 12)) (f_gI (f_pI (f_pI z5 30 0 13 ((f_gI z5 30 0 13) + 1)) 37 0 (f_ix (f_gI (f_pI z5 30 0 13 ((f_gI z5 30 0 13) + 1)) 30 0 12)) (f_gI (f_pI z5 30 0 13 ((f_gI z5 30 0 13) + 1)) 30 0 13)) 30 0 8)) 30 0 12)) 0) 30 0 12 ((f_gI (f_pI (f_pI (f_pI (f_pI z5 30 0 13 ((f_gI z5 30 0 13) + 1)) 37 0 (f_ix (f_gI (f_pI z5 30 0 13 ((f_gI z5 30 0 13) + 1)) 30 0 12)) (f_gI (f_pI z5 30 0 13 ((f_gI z5 30 0 13) + 1)) 30 0 13)) 38 0 (f_ix (f_gI (f_pI (f_pI z5 30 0 13 ((f_gI z5 30 0 13) + 1)) 37 0 (f_ix (f_gI (f_pI z5 30 0 13 ((f_gI z5 30 0 13) + 1)) 30 0 12)) (f_gI (f_pI z5 30 0 13 ((f_gI z5 30 0 13) + 1)) 30 0 13)) 30 0 12)) (f_gI (f_pI (f_pI z5 30 0 13 ((f_gI z5 30 0 13) + 1)) 37 0 (f_ix (f_gI (f_pI z5 30 0 13 ((f_gI z5 30 0 13) + 1)) 30 0 12)) (f_gI (f_pI z5 30 0 13 ((f_gI z5 30 0 13) + 1)) 30 0 13)) 30 0 8)) 39 0 (f_ix (f_gI (f_pI (f_pI (f_pI z5 30 0 13 ((f_gI z5 30 0 13) + 1)) 37 0 (f_ix (f_gI (f_pI z5 30 0 13 ((f_gI z5 30 0 13) + 1)) 30 0 12)) (f_gI (f_pI z5 30 0 13 ((f_gI z5 30 0 13) + 1)) 30 0 13)) 38 0 (f_ix (f_gI (f_pI (f_pI z5 30 0 13 ((f_gI z5 30 0 13) + 1)) 37 0 (f_ix (f_gI (f_pI z5 30 0 13 ((f_gI z5 30 0 13) + 1)) 30 0 12)) (f_gI (f_pI z5 30 0 13 ((f_gI z5 30 0 13) + 1)) 30 0 13)) 30 0 12)) (f_gI (f_pI (f_pI z5 30 0 13 ((f_gI z5 30 0 13) + 1)) 37 0 (f_ix (f_gI (f_pI z5 30 0 13 ((f_gI z5 30 0 13) + 1)) 30 0 12)) (f_gI (f_pI z5 30 0 13 ((f_gI z5 30 0 13) + 1)) 30 0 13)) 30 0 8)) 30 0 12)) 0) 30 0 12) + 1)) 30 0 8)) hx hb hts hown hK hLi hW hS fp_m_142 (vp_nar_int _) rfl rfl (by omega) d_m_voucher_105 (fun H locs hW hS => ?_)
          refine lv_aload_n hx hb d_m_voucher_108 rfl (lv_at hl 0 rfl) ?_
          refine lv_iconst (v := 0) hx hb d_m_voucher_109 (by decide) ?_
          refine hw_put (k := 30) (i := 0) (n := 1) (j := 8) (v := 0) hx hb hts hown hK hLi hW hS fp_m_110 (vp_nar_int _) rfl rfl (by omega) d_m_voucher_110 (fun H locs hW hS => ?_)
          refine lv_aload_n hx hb d_m_voucher_113 rfl (lv_at hl 0 rfl) ?_
          refine hw_get (k := 30) (i := 0) (n := 1) (j := 13) (v := .int (f_gI (f_pI (f_pI (f_pI (f_pI (f_pI (f_pI (f_pI z5 30 0 13 ((f_gI z5 30 0 13) + 1)) 37 0 (f_ix (f_gI (f_pI z5 30 0 13 ((f_gI z5 30 0 13) + 1)) 30 0 12)) (f_gI (f_pI z5 30 0 13 ((f_gI z5 30 0 13) + 1)) 30 0 13)) 38 0 (f_ix (f_gI (f_pI (f_pI z5 30 0 13 ((f_gI z5 30 0 13) + 1)) 37 0 (f_ix (f_gI (f_pI z5 30 0 13 ((f_gI z5 30 0 13) + 1)) 30 0 12)) (f_gI (f_pI z5 30 0 13 ((f_gI z5 30 0 13) + 1)) 30 0 13)) 30 0 12)) (f_gI (f_pI (f_pI z5 30 0 13 ((f_gI z5 30 0 13) + 1)) 37 0 (f_ix (f_gI (f_pI z5 30 0 13 ((f_gI z5 30 0 13) + 1)) 30 0 12)) (f_gI (f_pI z5 30 0 13 ((f_gI z5 30 0 13) + 1)) 30 0 13)) 30 0 8)) 39 0 (f_ix (f_gI (f_pI (f_pI (f_pI z5 30 0 13 ((f_gI z5 30 0 13) + 1)) 37 0 (f_ix (f_gI (f_pI z5 30 0 13 ((f_gI z5 30 0 13) + 1)) 30 0 12)) (f_gI (f_pI z5 30 0 13 ((f_gI z5 30 0 13) + 1)) 30 0 13)) 38 0 (f_ix (f_gI (f_pI (f_pI z5 30 0 13 ((f_gI z5 30 0 13) + 1)) 37 0 (f_ix (f_gI (f_pI z5 30 0 13 ((f_gI z5 30 0 13) + 1)) 30 0 12)) (f_gI (f_pI z5 30 0 13 ((f_gI z5 30 0 13) + 1)) 30 0 13)) 30 0 12)) (f_gI (f_pI (f_pI z5 30 0 13 ((f_gI z5 30 0 13) + 1)) 37 0 (f_ix (f_gI (f_pI z5 30 0 13 ((f_gI z5 30 0 13) + 1)) 30 0 12)) (f_gI (f_pI z5 30 0 13 ((f_gI z5 30 0 13) + 1)) 30 0 13)) 30 0 8)) 30 0 12)) 0) 30 0 12 ((f_gI (f_pI (f_pI (f_pI (f_pI z5 30 0 13 ((f_gI z5 30 0 13) + 1)) 37 0 (f_ix (f_gI (f_pI z5 30 0 13 ((f_gI z5 30 0 13) + 1)) 30 0 12)) (f_gI (f_pI z5 30 0 13 ((f_gI z5 30 0 13) + 1)) 30 0 13)) 38 0 (f_ix (f_gI (f_pI (f_pI z5 30 0 13 ((f_gI z5 30 0 13) + 1)) 37 0 (f_ix (f_gI (f_pI z5 30 0 13 ((f_gI z5 30 0 13) + 1)) 30 0 12)) (f_gI (f_pI z5 30 0 13 ((f_gI z5 30 0 13) + 1)) 30 0 13)) 30 0 12)) (f_gI (f_pI (f_pI z5 30 0 13 ((f_gI z5 30 0 13) + 1)) 37 0 (f_ix (f_gI (f_pI z5 30 0 13 ((f_gI z5 30 0 13) + 1)) 30 0 12)) (f_gI (f_pI z5 30 0 13 ((f_gI z5 30 0 13) + 1)) 30 0 13)) 30 0 8)) 39 0 (f_ix (f_gI (f_pI (f_pI (f_pI z5 30 0 13 ((f_gI z5 30 0 13) + 1)) 37 0 (f_ix (f_gI (f_pI z5 30 0 13 ((f_gI z5 30 0 13) + 1)) 30 0 12)) (f_gI (f_pI z5 30 0 13 ((f_gI z5 30 0 13) + 1)) 30 0 13)) 38 0 (f_ix (f_gI (f_pI (f_pI z5 30 0 13 ((f_gI z5 30 0 13) + 1)) 37 0 (f_ix (f_gI (f_pI z5 30 0 13 ((f_gI z5 30 0 13) + 1)) 30 0 12)) (f_gI (f_pI z5 30 0 13 ((f_gI z5 30 0 13) + 1)) 30 0 13)) 30 0 12)) (f_gI (f_pI (f_pI z5 30 0 13 ((f_gI z5 30 0 13) + 1)) 37 0 (f_ix (f_gI (f_pI z5 30 0 13 ((f_gI z5 30 0 13) + 1)) 30 0 12)) (f_gI (f_pI z5 30 0 13 ((f_gI z5 30 0 13) + 1)) 30 0 13)) 30 0 8)) 30 0 12)) 0) 30 0 12) + 1)) 30 0 23 ((f_gI (f_pI (f_pI (f_pI (f_pI (f_pI z5 30 0 13 ((f_gI z5 30 0 13) + 1)) 37 0 (f_ix (f_gI (f_pI z5 30 0 13 ((f_gI z5 30 0 13) + 1)) 30 0 12)) (f_gI (f_pI z5 30 0 13 ((f_gI z5 30 0 13) + 1)) 30 0 13)) 38 0 (f_ix (f_gI (f_pI (f_pI z5 30 0 13 ((f_gI z5 30 0 13) + 1)) 37 0 (f_ix (f_gI (f_pI z5 30 0 13 ((f_gI z5 30 0 13) + 1)) 30 0 12)) (f_gI (f_pI z5 30 0 13 ((f_gI z5 30 0 13) + 1)) 30 0 13)) 30 0 12)) (f_gI (f_pI (f_pI z5 30 0 13 ((f_gI z5 30 0 13) + 1)) 37 0 (f_ix (f_gI (f_pI z5 30 0 13 ((f_gI z5 30 0 13) + 1)) 30 0 12)) (f_gI (f_pI z5 30 0 13 ((f_gI z5 30 0 13) + 1)) 30 0 13)) 30 0 8)) 39 0 (f_ix (f_gI (f_pI (f_pI (f_pI z5 30 0 13 ((f_gI z5 30 0 13) + 1)) 37 0 (f_ix (f_gI (f_pI z5 30 0 13 ((f_gI z5 30 0 13) + 1)) 30 0 12)) (f_gI (f_pI z5 30 0 13 ((f_gI z5 30 0 13) + 1)) 30 0 13)) 38 0 (f_ix (f_gI (f_pI (f_pI z5 30 0 13 ((f_gI z5 30 0 13) + 1)) 37 0 (f_ix (f_gI (f_pI z5 30 0 13 ((f_gI z5 30 0 13) + 1)) 30 0 12)) (f_gI (f_pI z5 30 0 13 ((f_gI z5 30 0 13) + 1)) 30 0 13)) 30 0 12)) (f_gI (f_pI (f_pI z5 30 0 13 ((f_gI z5 30 0 13) + 1)) 37 0 (f_ix (f_gI (f_pI z5 30 0 13 ((f_gI z5 30 0 13) + 1)) 30 0 12)) (f_gI (f_pI z5 30 0 13 ((f_gI z5 30 0 13) + 1)) 30 0 13)) 30 0 8)) 30 0 12)) 0) 30 0 12 ((f_gI (f_pI (f_pI (f_pI (f_pI z5 30 0 13 ((f_gI z5 30 0 13) + 1)) 37 0 (f_ix (f_gI (f_pI z5 30 0 13 ((f_gI z5 30 0 13) + 1)) 30 0 12)) (f_gI (f_pI z5 30 0 13 ((f_gI z5 30 0 13) + 1)) 30 0 13)) 38 0 (f_ix (f_gI (f_pI (f_pI z5 30 0 13 ((f_gI z5 30 0 13) + 1)) 37 0 (f_ix (f_gI (f_pI z5 30 0 13 ((f_gI z5 30 0 13) + 1)) 30 0 12)) (f_gI (f_pI z5 30 0 13 ((f_gI z5 30 0 13) + 1)) 30 0 13)) 30 0 12)) (f_gI (f_pI (f_pI z5 30 0 13 ((f_gI z5 30 0 13) + 1)) 37 0 (f_ix (f_gI (f_pI z5 30 0 13 ((f_gI z5 30 0 13) + 1)) 30 0 12)) (f_gI (f_pI z5 30 0 13 ((f_gI z5 30 0 13) + 1)) 30 0 13)) 30 0 8)) 39 0 (f_ix (f_gI (f_pI (f_pI (f_pI z5 30 0 13 ((f_gI z5 30 0 13) + 1)) 37 0 (f_ix (f_gI (f_pI z5 30 0 13 ((f_gI z5 30 0 13) + 1)) 30 0 12)) (f_gI (f_pI z5 30 0 13 ((f_gI z5 30 0 13) + 1)) 30 0 13)) 38 0 (f_ix (f_gI (f_pI (f_pI z5 30 0 13 ((f_gI z5 30 0 13) + 1)) 37 0 (f_ix (f_gI (f_pI z5 30 0 13 ((f_gI z5 30 0 13) + 1)) 30 0 12)) (f_gI (f_pI z5 30 0 13 ((f_gI z5 30 0 13) + 1)) 30 0 13)) 30 0 12)) (f_gI (f_pI (f_pI z5 30 0 13 ((f_gI z5 30 0 13) + 1)) 37 0 (f_ix (f_gI (f_pI z5 30 0 13 ((f_gI z5 30 0 13) + 1)) 30 0 12)) (f_gI (f_pI z5 30 0 13 ((f_gI z5 30 0 13) + 1)) 30 0 13)) 30 0 8)) 30 0 12)) 0) 30 0 12) + 1)) 30 0 23) + (f_gI (f_pI (f_pI (f_pI (f_pI (f_pI z5 30 0 13 ((f_gI z5 30 0 13) + 1)) 37 0 (f_ix (f_gI (f_pI z5 30 0 13 ((f_gI z5 30 0 13) + 1)) 30 0 12)) (f_gI (f_pI z5 30 0 13 ((f_gI z5 30 0 13) + 1)) 30 0 13)) 38 0 (f_ix (f_gI (f_pI (f_pI z5 30 0 13 ((f_gI z5 30 0 13) + 1)) 37 0 (f_ix (f_gI (f_pI z5 30 0 13 ((f_gI z5 30 0 13) + 1)) 30 0 12)) (f_gI (f_pI z5 30 0 13 ((f_gI z5 30 0 13) + 1)) 30 0 13)) 30 0 12)) (f_gI (f_pI (f_pI z5 30 0 13 ((f_gI z5 30 0 13) + 1)) 37 0 (f_ix (f_gI (f_pI z5 30 0 13 ((f_gI z5 30 0 13) + 1)) 30 0 12)) (f_gI (f_pI z5 30 0 13 ((f_gI z5 30 0 13) + 1)) 30 0 13)) 30 0 8)) 39 0 (f_ix (f_gI (f_pI (f_pI (f_pI z5 30 0 13 ((f_gI z5 30 0 13) + 1)) 37 0 (f_ix (f_gI (f_pI z5 30 0 13 ((f_gI z5 30 0 13) + 1)) 30 0 12)) (f_gI (f_pI z5 30 0 13 ((f_gI z5 30 0 13) + 1)) 30 0 13)) 38 0 (f_ix (f_gI (f_pI (f_pI z5 30 0 13 ((f_gI z5 30 0 13) + 1)) 37 0 (f_ix (f_gI (f_pI z5 30 0 13 ((f_gI z5 30 0 13) + 1)) 30 0 12)) (f_gI (f_pI z5 30 0 13 ((f_gI z5 30 0 13) + 1)) 30 0 13)) 30 0 12)) (f_gI (f_pI (f_pI z5 30 0 13 ((f_gI z5 30 0 13) + 1)) 37 0 (f_ix (f_gI (f_pI z5 30 0 13 ((f_gI z5 30 0 13) + 1)) 30 0 12)) (f_gI (f_pI z5 30 0 13 ((f_gI z5 30 0 13) + 1)) 30 0 13)) 30 0 8)) 30 0 12)) 0) 30 0 12 ((f_gI (f_pI (f_pI (f_pI (f_pI z5 30 0 13 ((f_gI z5 30 0 13) + 1)) 37 0 (f_ix (f_gI (f_pI z5 30 0 13 ((f_gI z5 30 0 13) + 1)) 30 0 12)) (f_gI (f_pI z5 30 0 13 ((f_gI z5 30 0 13) + 1)) 30 0 13)) 38 0 (f_ix (f_gI (f_pI (f_pI z5 30 0 13 ((f_gI z5 30 0 13) + 1)) 37 0 (f_ix (f_gI (f_pI z5 30 0 13 ((f_gI z5 30 0 13) + 1)) 30 0 12)) (f_gI (f_pI z5 30 0 13 ((f_gI z5 30 0 13) + 1)) 30 0 13)) 30 0 12)) (f_gI (f_pI (f_pI z5 30 0 13 ((f_gI z5 30 0 13) + 1)) 37 0 (f_ix (f_gI (f_pI z5 30 0 13 ((f_gI z5 30 0 13) + 1)) 30 0 12)) (f_gI (f_pI z5 30 0 13 ((f_gI z5 30 0 13) + 1)) 30 0 13)) 30 0 8)) 39 0 (f_ix (f_gI (f_pI (f_pI (f_pI z5 30 0 13 ((f_gI z5 30 0 13) + 1)) 37 0 (f_ix (f_gI (f_pI z5 30 0 13 ((f_gI z5 30 0 13) + 1)) 30 0 12)) (f_gI (f_pI z5 30 0 13 ((f_gI z5 30 0 13) + 1)) 30 0 13)) 38 0 (f_ix (f_gI (f_pI (f_pI z5 30 0 13 ((f_gI z5 30 0 13) + 1)) 37 0 (f_ix (f_gI (f_pI z5 30 0 13 ((f_gI z5 30 0 13) + 1)) 30 0 12)) (f_gI (f_pI z5 30 0 13 ((f_gI z5 30 0 13) + 1)) 30 0 13)) 30 0 12)) (f_gI (f_pI (f_pI z5 30 0 13 ((f_gI z5 30 0 13) + 1)) 37 0 (f_ix (f_gI (f_pI z5 30 0 13 ((f_gI z5 30 0 13) + 1)) 30 0 12)) (f_gI (f_pI z5 30 0 13 ((f_gI z5 30 0 13) + 1)) 30 0 13)) 30 0 8)) 30 0 12)) 0) 30 0 12) + 1)) 30 0 8))) 30 0 8 0) 30 0 13)) hx hb hts hown hK hW fl_m_139 rfl (by omega) rfl d_m_voucher_114 ?_
          exact hw_iret hx hb hr hlk (vp_nar_int _) hW hS (by omega) (by omega) d_m_voucher_117 hF
        · replace hF := (if_pos h6).symm.trans hF
          refine lv_iconst (v := 0) hx hb d_m_voucher_37 (by decide) ?_
          exact hw_iret hx hb hr hlk (vp_nar_int _) hW hS (by omega) (by omega) d_m_voucher_38 hF
  · replace hF := (if_neg h2).symm.trans hF
    refine lv_iconst (v := 0) hx hb d_m_voucher_12 (by decide) ?_
    exact hw_iret hx hb hr hlk (vp_nar_int _) hW hS (by omega) (by omega) d_m_voucher_13 hF
set_option maxRecDepth 100000 in
set_option maxHeartbeats 4000000 in
theorem c_m_give_ok (l : Launch) (hl0 : l.stackTraces = false) {L : Nat → Nat → Nat} {Ar : Nat → ClassId} {D : va_G} {b0 : Nat} (hLi : f_L L b0)   (z : fST) (r : Int32) (z' : fST) (hF : F_m_give  z = some (r, z')) : f_C l y_m_give wt 2 0 L Ar D b0 [.ref (L 30 0)] z (.inl (some (.int r))) z' := by
  refine f_ofW (cc := c_m_give) (maxL := 2) (ret := (some FieldType.int)) (by decide) w_m_give (Nat.le_of_ble_eq_true rfl) ?_
  intro p e s m args below meth c R hRf hRl hRc hRs hx hb hr hlk hml hno hts hown hK hZ hsz
  intro H locs ls cells slots hW hS hl hc hs
  have hl : lv_has ls 2 [(0, .ref (L 30 0))] := hl
  unfold F_m_give at hF
  refine lv_aload_n hx hb d_m_give_0 rfl (lv_at hl 0 rfl) ?_
  refine lv_aload_n hx hb d_m_give_1 rfl (lv_at hl 0 rfl) ?_
  refine hw_get (k := 30) (i := 0) (n := 1) (j := 17) (v := .int (f_gI z 30 0 17)) hx hb hts hown hK hW fl_m_55 rfl (by omega) rfl d_m_give_2 ?_
  refine lv_iconst (v := 1) hx hb d_m_give_5 (by decide) ?_
  obtain ⟨v1, z1, hc1, hF⟩ := f_bd_some hF
  refine hw_VR (k := 30) (i := 0) (nk := 1) (As := [.int (f_gI z 30 0 17), .int 1]) (rest := []) hx hb hml hown hts (c_m_fails_ok l hl0 hLi (f_gI z 30 0 17) 1  _ _ _ hc1) st_m_59 (by decide) rfl (by omega) rfl rfl hK hZ hsz hS hW rfl hl.1 (Nat.le_of_ble_eq_true rfl) d_m_give_6 (by omega) (by omega) (by omega) (by omega) (fun H locs hW hS => ?_)
  refine lv_if_eq (tgt := 14) hx hb d_m_give_9 (by decide) (fun h2 => ?_) (fun h2 => ?_)
  · replace hF := (if_pos h2).symm.trans hF
    refine lv_aload_n hx hb d_m_give_14 rfl (lv_at hl 0 rfl) ?_
    refine hw_get (k := 30) (i := 0) (n := 1) (j := 8) (v := .int (f_gI z1 30 0 8)) hx hb hts hown hK hW fl_m_110 rfl (by omega) rfl d_m_give_15 ?_
    refine lv_if_eq (tgt := 28) hx hb d_m_give_18 (by decide) (fun h3 => ?_) (fun h3 => ?_)
    · replace hF := (if_pos h3).symm.trans hF
      refine lv_iconst (v := 0) hx hb d_m_give_28 (by decide) ?_
      exact hw_iret hx hb hr hlk (vp_nar_int _) hW hS (by omega) (by omega) d_m_give_29 hF
    · replace hF := (if_neg h3).symm.trans hF
      refine lv_aload_n hx hb d_m_give_21 rfl (lv_at hl 0 rfl) ?_
      obtain ⟨v4, z4, hc4, hF⟩ := f_bd_some hF
      refine hw_VR (k := 30) (i := 0) (nk := 1) (As := []) (rest := []) hx hb hml hown hts (c_m_writes_ok l hl0 hLi   _ _ _ hc4) st_m_107 (by decide) rfl (by omega) rfl rfl hK hZ hsz hS hW rfl hl.1 (Nat.le_of_ble_eq_true rfl) d_m_give_22 (by omega) (by omega) (by omega) (by omega) (fun H locs hW hS => ?_)
      refine lv_if_ne (tgt := 30) hx hb d_m_give_25 (by decide) (fun h5 => ?_) (fun h5 => ?_)
      · replace hF := (if_neg h5).symm.trans hF
        refine lv_aload_n hx hb d_m_give_30 rfl (lv_at hl 0 rfl) ?_
        refine hw_get (k := 30) (i := 0) (n := 1) (j := 8) (v := .int (f_gI z4 30 0 8)) hx hb hts hown hK hW fl_m_110 rfl (by omega) rfl d_m_give_31 ?_
        refine lv_istore_n (lv' := [(1, .int (f_gI z4 30 0 8)), (0, .ref (L 30 0))]) hx hb d_m_give_34 rfl hl (by decide) rfl (fun ls hl => ?_)
        refine lv_aload_n hx hb d_m_give_35 rfl (lv_at hl 1 rfl) ?_
        refine lv_dup hx hb d_m_give_36 rfl ?_
        refine hw_get (k := 30) (i := 0) (n := 1) (j := 24) (v := .int (f_gI z4 30 0 24)) hx hb hts hown hK hW fl_m_145 rfl (by omega) rfl d_m_give_37 ?_
        refine lv_iload_n hx hb d_m_give_40 rfl (lv_at hl 0 rfl) ?_
        refine lv_iadd hx hb d_m_give_41 ?_
        refine hw_put (k := 30) (i := 0) (n := 1) (j := 24) (v := (f_gI z4 30 0 24) + (f_gI z4 30 0 8)) hx hb hts hown hK hLi hW hS fp_m_145 (vp_nar_int _) rfl rfl (by omega) d_m_give_42 (fun H locs hW hS => ?_)
        refine lv_aload_n hx hb d_m_give_45 rfl (lv_at hl 1 rfl) ?_
        refine lv_iconst (v := 0) hx hb d_m_give_46 (by decide) ?_
        refine hw_put (k := 30) (i := 0) (n := 1) (j := 8) (v := 0) hx hb hts hown hK hLi hW hS fp_m_110 (vp_nar_int _) rfl rfl (by omega) d_m_give_47 (fun H locs hW hS => ?_)
        refine lv_iload_n hx hb d_m_give_50 rfl (lv_at hl 0 rfl) ?_
        exact hw_iret hx hb hr hlk (vp_nar_int _) hW hS (by omega) (by omega) d_m_give_51 hF
      · replace hF := (if_pos h5).symm.trans hF
        refine lv_iconst (v := 0) hx hb d_m_give_28 (by decide) ?_
        exact hw_iret hx hb hr hlk (vp_nar_int _) hW hS (by omega) (by omega) d_m_give_29 hF
  · replace hF := (if_neg h2).symm.trans hF
    refine lv_iconst (v := 0) hx hb d_m_give_12 (by decide) ?_
    exact hw_iret hx hb hr hlk (vp_nar_int _) hW hS (by omega) (by omega) d_m_give_13 hF
set_option maxRecDepth 100000 in
set_option maxHeartbeats 4000000 in
theorem c_m_voucherAt_ok (l : Launch) (hl0 : l.stackTraces = false) {L : Nat → Nat → Nat} {Ar : Nat → ClassId} {D : va_G} {b0 : Nat} (hLi : f_L L b0) (a1 : Int32)  (z : fST) (r : Int32) (z' : fST) (hF : F_m_voucherAt a1 z = some (r, z')) : f_C l y_m_voucherAt wt 1 0 L Ar D b0 [.ref (L 30 0), .int a1] z (.inl (some (.int r))) z' := by
  refine f_ofW (cc := c_m_voucherAt) (maxL := 3) (ret := (some FieldType.int)) (by decide) w_m_voucherAt (Nat.le_of_ble_eq_true rfl) ?_
  intro p e s m args below meth c R hRf hRl hRc hRs hx hb hr hlk hml hno hts hown hK hZ hsz
  have B2 : ∀  (n : Nat) (x1 : Int32) (x2 : Int32) (z : fST), f_it (b_m_voucherAt_2 ) n (x1, x2, z) = some (r, z') →  f_B p l e R s m args below meth c L Ar D b0 3 0 (f_E below args s L Ar D b0 0 (.inl (some (.int r))) z') 0 2 [(0, .ref (L 30 0)), (1, .int x1), (2, .int x2)] [] z := by
    intro  n
    induction n with
    | zero => intro x1 x2 z hF; cases hF
    | succ n ih =>
    intro x1 x2 z hF  H locs ls cells slots hW hS hl hc hs
    replace hF := f_it_s hF
    have K2 : ∀ (x1 : Int32) (x2 : Int32) (z : fST), f_it (b_m_voucherAt_2 ) n (x1, x2, z) = some (r, z') →  f_B p l e R s m args below meth c L Ar D b0 3 0 (f_E below args s L Ar D b0 0 (.inl (some (.int r))) z') 0 2 [(0, .ref (L 30 0)), (1, .int x1), (2, .int x2)] [] z := fun x1 x2 z hF => ih x1 x2 z hF
    generalize f_it (b_m_voucherAt_2 ) n = k2 at hF K2
    unfold b_m_voucherAt_2 at hF
    dsimp only at hF
    refine lv_iload_n hx hb d_m_voucherAt_2 rfl (lv_at hl 2 rfl) ?_
    refine lv_aload_n hx hb d_m_voucherAt_3 rfl (lv_at hl 0 rfl) ?_
    refine hw_get (k := 30) (i := 0) (n := 1) (j := 12) (v := .int (f_gI z 30 0 12)) hx hb hts hown hK hW fl_m_94 rfl (by omega) rfl d_m_voucherAt_4 ?_
    refine lv_icmp_ge (tgt := 28) hx hb d_m_voucherAt_7 (by decide) (fun h1 => ?_) (fun h1 => ?_)
    · replace hF := (if_pos h1).symm.trans hF
      refine lv_iconst (v := (-1)) hx hb d_m_voucherAt_28 (by decide) ?_
      exact hw_iret hx hb hr hlk (vp_nar_int _) hW hS (by omega) (by omega) d_m_voucherAt_29 hF
    · replace hF := (if_neg h1).symm.trans hF
      refine lv_aload_n hx hb d_m_voucherAt_10 rfl (lv_at hl 0 rfl) ?_
      refine hw_get (k := 30) (i := 0) (n := 1) (j := 9) (v := .ref (L 37 0)) hx hb hts hown hK hW fl_m_28 rfl (by omega) rfl d_m_voucherAt_11 ?_
      refine lv_iload_n hx hb d_m_voucherAt_14 rfl (lv_at hl 2 rfl) ?_
      obtain ⟨g2, hF⟩ := f_gd_some hF
      refine hw_iald (k := 37) (i := 0) (n := 1) hx hb hK hW (by decide) rfl (by omega) rfl g2 d_m_voucherAt_15 ?_
      refine lv_iload_n hx hb d_m_voucherAt_16 rfl (lv_at hl 1 rfl) ?_
      refine lv_icmp_ne (tgt := 22) hx hb d_m_voucherAt_17 (by decide) (fun h3 => ?_) (fun h3 => ?_)
      · replace hF := (if_neg h3).symm.trans hF
        refine lv_iinc (k := 2) (x := x2) (v := x2 + 1) (lv' := [(2, .int (x2 + 1)), (0, .ref (L 30 0)), (1, .int x1)]) hx hb d_m_voucherAt_22 hl rfl rfl (by decide) rfl (fun ls hl => ?_)
        refine lv_goto (tgt := 2) hx hb d_m_voucherAt_25 (by decide) ?_
        exact K2 x1 (x2 + 1) z hF _ _ _ _ _ hW hS (lv_sub hl [1, 2, 0] rfl) (by omega) (by omega)
      · replace hF := (if_pos h3).symm.trans hF
        refine lv_iload_n hx hb d_m_voucherAt_20 rfl (lv_at hl 2 rfl) ?_
        exact hw_iret hx hb hr hlk (vp_nar_int _) hW hS (by omega) (by omega) d_m_voucherAt_21 hF
  intro H locs ls cells slots hW hS hl hc hs
  have hl : lv_has ls 3 [(0, .ref (L 30 0)), (1, .int a1)] := hl
  unfold F_m_voucherAt at hF
  refine lv_iconst (v := 0) hx hb d_m_voucherAt_0 (by decide) ?_
  refine lv_istore_n (lv' := [(2, .int 0), (0, .ref (L 30 0)), (1, .int a1)]) hx hb d_m_voucherAt_1 rfl hl (by decide) rfl (fun ls hl => ?_)
  exact B2 2000 a1 0 z hF _ _ _ _ _ hW hS (lv_sub hl [1, 2, 0] rfl) (by omega) (by omega)
set_option maxRecDepth 100000 in
set_option maxHeartbeats 4000000 in
theorem c_m_redeem_ok (l : Launch) (hl0 : l.stackTraces = false) {L : Nat → Nat → Nat} {Ar : Nat → ClassId} {D : va_G} {b0 : Nat} (hLi : f_L L b0) (a1 : Int32)  (z : fST) (r : Int32) (z' : fST) (hF : F_m_redeem a1 z = some (r, z')) : f_C l y_m_redeem wt 2 0 L Ar D b0 [.ref (L 30 0), .int a1] z (.inl (some (.int r))) z' := by
  refine f_ofW (cc := c_m_redeem) (maxL := 3) (ret := (some FieldType.int)) (by decide) w_m_redeem (Nat.le_of_ble_eq_true rfl) ?_
  intro p e s m args below meth c R hRf hRl hRc hRs hx hb hr hlk hml hno hts hown hK hZ hsz
  have B29 : ∀  (x2 : Int32) (y1 : Int32) (z : fST), b_m_redeem_29  x2 y1 z = some (r, z') →  f_B p l e R s m args below meth c L Ar D b0 3 0 (f_E below args s L Ar D b0 0 (.inl (some (.int r))) z') 0 29 [(0, .ref (L 30 0)), (2, .int x2)] [.int y1, .ref (L 30 0)] z := by
    intro  x2 y1 z hF  H locs ls cells slots hW hS hl hc hs
    unfold b_m_redeem_29 at hF
    refine lv_iconst (v := 2) hx hb d_m_redeem_29 (by decide) ?_
    obtain ⟨v5, z5, hc5, hF⟩ := f_bd_some hF
    refine hw_VR (k := 30) (i := 0) (nk := 1) (As := [.int y1, .int 2]) (rest := []) hx hb hml hown hts (c_m_fails_ok l hl0 hLi y1 2  _ _ _ hc5) st_m_59 (by decide) rfl (by omega) rfl rfl hK hZ hsz hS hW rfl hl.1 (Nat.le_of_ble_eq_true rfl) d_m_redeem_30 (by omega) (by omega) (by omega) (by omega) (fun H locs hW hS => ?_)
    refine lv_if_ne (tgt := 45) hx hb d_m_redeem_33 (by decide) (fun h6 => ?_) (fun h6 => ?_)
    · replace hF := (if_neg h6).symm.trans hF
      refine lv_iconst (v := 0) hx hb d_m_redeem_45 (by decide) ?_
      exact hw_iret hx hb hr hlk (vp_nar_int _) hW hS (by omega) (by omega) d_m_redeem_46 hF
    · replace hF := (if_pos h6).symm.trans hF
      refine lv_aload_n hx hb d_m_redeem_36 rfl (lv_at hl 0 rfl) ?_
      refine hw_get (k := 30) (i := 0) (n := 1) (j := 11) (v := .ref (L 39 0)) hx hb hts hown hK hW fl_m_34 rfl (by omega) rfl d_m_redeem_37 ?_
      refine lv_iload_n hx hb d_m_redeem_40 rfl (lv_at hl 1 rfl) ?_
      obtain ⟨g7, hF⟩ := f_gd_some hF
      refine hw_zald (k := 39) (i := 0) (n := 1) hx hb hK hW (by decide) rfl (by omega) rfl g7 d_m_redeem_41 ?_
      refine lv_if_eq (tgt := 47) hx hb d_m_redeem_42 (by decide) (fun h8 => ?_) (fun h8 => ?_)
      · replace hF := (if_pos h8).symm.trans hF
        refine lv_aload_n hx hb d_m_redeem_47 rfl (lv_at hl 0 rfl) ?_
        refine hw_get (k := 30) (i := 0) (n := 1) (j := 11) (v := .ref (L 39 0)) hx hb hts hown hK hW fl_m_34 rfl (by omega) rfl d_m_redeem_48 ?_
        refine lv_iload_n hx hb d_m_redeem_51 rfl (lv_at hl 1 rfl) ?_
        refine lv_iconst (v := 1) hx hb d_m_redeem_52 (by decide) ?_
        obtain ⟨g9, hF⟩ := f_gd_some hF
        refine hw_zast (k := 39) (i := 0) (n := 1) hx hb hK hLi hW hS (by decide) rfl (by omega) rfl g9 (Or.inr rfl) d_m_redeem_53 (fun H locs hW hS => ?_)
        refine lv_aload_n hx hb d_m_redeem_54 rfl (lv_at hl 0 rfl) ?_
        refine hw_get (k := 30) (i := 0) (n := 1) (j := 10) (v := .ref (L 38 0)) hx hb hts hown hK hW fl_m_31 rfl (by omega) rfl d_m_redeem_55 ?_
        refine lv_iload_n hx hb d_m_redeem_58 rfl (lv_at hl 1 rfl) ?_
        obtain ⟨g10, hF⟩ := f_gd_some hF
        refine hw_iald (k := 38) (i := 0) (n := 1) hx hb hK hW (by decide) rfl (by omega) rfl g10 d_m_redeem_59 ?_
        exact hw_iret hx hb hr hlk (vp_nar_int _) hW hS (by omega) (by omega) d_m_redeem_60 hF
      · replace hF := (if_neg h8).symm.trans hF
        refine lv_iconst (v := 0) hx hb d_m_redeem_45 (by decide) ?_
        exact hw_iret hx hb hr hlk (vp_nar_int _) hW hS (by omega) (by omega) d_m_redeem_46 hF
  intro H locs ls cells slots hW hS hl hc hs
  have hl : lv_has ls 3 [(0, .ref (L 30 0)), (1, .int a1)] := hl
  unfold F_m_redeem at hF
  refine lv_aload_n hx hb d_m_redeem_0 rfl (lv_at hl 0 rfl) ?_
  refine lv_iload_n hx hb d_m_redeem_1 rfl (lv_at hl 1 rfl) ?_
  obtain ⟨v1, z1, hc1, hF⟩ := f_bd_some hF
  refine hw_VR (k := 30) (i := 0) (nk := 1) (As := [.int a1]) (rest := []) hx hb hml hown hts (c_m_voucherAt_ok l hl0 hLi a1  _ _ _ hc1) st_m_148 (by decide) rfl (by omega) rfl rfl hK hZ hsz hS hW rfl hl.1 (Nat.le_of_ble_eq_true rfl) d_m_redeem_2 (by omega) (by omega) (by omega) (by omega) (fun H locs hW hS => ?_)
  refine lv_istore_n (lv' := [(2, .int v1), (0, .ref (L 30 0)), (1, .int a1)]) hx hb d_m_redeem_5 rfl hl (by decide) rfl (fun ls hl => ?_)
  refine lv_aload_n hx hb d_m_redeem_6 rfl (lv_at hl 1 rfl) ?_
  refine lv_aload_n hx hb d_m_redeem_7 rfl (lv_at hl 1 rfl) ?_
  refine hw_get (k := 30) (i := 0) (n := 1) (j := 17) (v := .int (f_gI z1 30 0 17)) hx hb hts hown hK hW fl_m_55 rfl (by omega) rfl d_m_redeem_8 ?_
  refine lv_iconst (v := 1) hx hb d_m_redeem_11 (by decide) ?_
  obtain ⟨v2, z2, hc2, hF⟩ := f_bd_some hF
  refine hw_VR (k := 30) (i := 0) (nk := 1) (As := [.int (f_gI z1 30 0 17), .int 1]) (rest := []) hx hb hml hown hts (c_m_fails_ok l hl0 hLi (f_gI z1 30 0 17) 1  _ _ _ hc2) st_m_59 (by decide) rfl (by omega) rfl rfl hK hZ hsz hS hW rfl hl.1 (Nat.le_of_ble_eq_true rfl) d_m_redeem_12 (by omega) (by omega) (by omega) (by omega) (fun H locs hW hS => ?_)
  refine lv_if_ne (tgt := 45) hx hb d_m_redeem_15 (by decide) (fun h3 => ?_) (fun h3 => ?_)
  · replace hF := (if_neg h3).symm.trans hF
    refine lv_iconst (v := 0) hx hb d_m_redeem_45 (by decide) ?_
    exact hw_iret hx hb hr hlk (vp_nar_int _) hW hS (by omega) (by omega) d_m_redeem_46 hF
  · replace hF := (if_pos h3).symm.trans hF
    refine lv_aload_n hx hb d_m_redeem_18 rfl (lv_at hl 1 rfl) ?_
    refine lv_iload_n hx hb d_m_redeem_19 rfl (lv_at hl 0 rfl) ?_
    refine lv_iconst (v := (-1)) hx hb d_m_redeem_20 (by decide) ?_
    refine lv_icmp_ne (tgt := 28) hx hb d_m_redeem_21 (by decide) (fun h4 => ?_) (fun h4 => ?_)
    · replace hF := (if_neg h4).symm.trans hF
      refine lv_iconst (v := 0) hx hb d_m_redeem_28 (by decide) ?_
      exact B29 v1 0 z2 hF _ _ _ _ _ hW hS (lv_sub hl [1, 0] rfl) (by omega) (by omega)
    · replace hF := (if_pos h4).symm.trans hF
      refine lv_iconst (v := 1) hx hb d_m_redeem_24 (by decide) ?_
      refine lv_goto (tgt := 29) hx hb d_m_redeem_25 (by decide) ?_
      exact B29 v1 1 z2 hF _ _ _ _ _ hW hS (lv_sub hl [1, 0] rfl) (by omega) (by omega)
set_option maxRecDepth 100000 in
set_option maxHeartbeats 4000000 in
theorem c_m_clear_ok (l : Launch) (hl0 : l.stackTraces = false) {L : Nat → Nat → Nat} {Ar : Nat → ClassId} {D : va_G} {b0 : Nat} (hLi : f_L L b0)   (z : fST) (r : Int32) (z' : fST) (hF : F_m_clear  z = some (r, z')) : f_C l y_m_clear wt 2 0 L Ar D b0 [.ref (L 30 0)] z (.inl (some (.int r))) z' := by
  refine f_ofW (cc := c_m_clear) (maxL := 3) (ret := (some FieldType.int)) (by decide) w_m_clear (Nat.le_of_ble_eq_true rfl) ?_
  intro p e s m args below meth c R hRf hRl hRc hRs hx hb hr hlk hml hno hts hown hK hZ hsz
  have B72 : ∀ (k18 : Int32 × Int32 × fST → Option (Int32 × fST)) (K18 : ∀ (x1 : Int32) (x2 : Int32) (z : fST), k18 (x1, x2, z) = some (r, z') →  f_B p l e R s m args below meth c L Ar D b0 3 0 (f_E below args s L Ar D b0 0 (.inl (some (.int r))) z') 0 18 [(0, .ref (L 30 0)), (1, .int x1), (2, .int x2)] [] z) (x1 : Int32) (x2 : Int32) (z : fST), b_m_clear_72 k18 x1 x2 z = some (r, z') →  f_B p l e R s m args below meth c L Ar D b0 3 0 (f_E below args s L Ar D b0 0 (.inl (some (.int r))) z') 0 72 [(0, .ref (L 30 0)), (1, .int x1), (2, .int x2)] [] z := by
    intro k18 K18 x1 x2 z hF  H locs ls cells slots hW hS hl hc hs
    unfold b_m_clear_72 at hF
    refine lv_iinc (k := 2) (x := x2) (v := x2 + 1) (lv' := [(2, .int (x2 + 1)), (0, .ref (L 30 0)), (1, .int x1)]) hx hb d_m_clear_72 hl rfl rfl (by decide) rfl (fun ls hl => ?_)
    refine lv_goto (tgt := 18) hx hb d_m_clear_75 (by decide) ?_
    exact K18 x1 (x2 + 1) z hF _ _ _ _ _ hW hS (lv_sub hl [1, 2, 0] rfl) (by omega) (by omega)
  have B18 : ∀  (n : Nat) (x1 : Int32) (x2 : Int32) (z : fST), f_it (b_m_clear_18 ) n (x1, x2, z) = some (r, z') →  f_B p l e R s m args below meth c L Ar D b0 3 0 (f_E below args s L Ar D b0 0 (.inl (some (.int r))) z') 0 18 [(0, .ref (L 30 0)), (1, .int x1), (2, .int x2)] [] z := by
    intro  n
    induction n with
    | zero => intro x1 x2 z hF; cases hF
    | succ n ih =>
    intro x1 x2 z hF  H locs ls cells slots hW hS hl hc hs
    replace hF := f_it_s hF
    have K18 : ∀ (x1 : Int32) (x2 : Int32) (z : fST), f_it (b_m_clear_18 ) n (x1, x2, z) = some (r, z') →  f_B p l e R s m args below meth c L Ar D b0 3 0 (f_E below args s L Ar D b0 0 (.inl (some (.int r))) z') 0 18 [(0, .ref (L 30 0)), (1, .int x1), (2, .int x2)] [] z := fun x1 x2 z hF => ih x1 x2 z hF
    generalize f_it (b_m_clear_18 ) n = k18 at hF K18
    unfold b_m_clear_18 at hF
    dsimp only at hF
    refine lv_iload_n hx hb d_m_clear_18 rfl (lv_at hl 2 rfl) ?_
    refine lv_aload_n hx hb d_m_clear_19 rfl (lv_at hl 0 rfl) ?_
    refine hw_get (k := 30) (i := 0) (n := 1) (j := 12) (v := .int (f_gI z 30 0 12)) hx hb hts hown hK hW fl_m_94 rfl (by omega) rfl d_m_clear_20 ?_
    refine lv_icmp_ge (tgt := 78) hx hb d_m_clear_23 (by decide) (fun h3 => ?_) (fun h3 => ?_)
    · replace hF := (if_pos h3).symm.trans hF
      refine lv_aload_n hx hb d_m_clear_78 rfl (lv_at hl 0 rfl) ?_
      refine hw_get (k := 30) (i := 0) (n := 1) (j := 12) (v := .int (f_gI z 30 0 12)) hx hb hts hown hK hW fl_m_94 rfl (by omega) rfl d_m_clear_79 ?_
      refine lv_iload_n hx hb d_m_clear_82 rfl (lv_at hl 1 rfl) ?_
      refine lv_isub hx hb d_m_clear_83 ?_
      refine lv_istore_n (lv' := [(2, .int ((f_gI z 30 0 12) - x1)), (0, .ref (L 30 0)), (1, .int x1)]) hx hb d_m_clear_84 rfl hl (by decide) rfl (fun ls hl => ?_)
      refine lv_aload_n hx hb d_m_clear_85 rfl (lv_at hl 1 rfl) ?_
      refine lv_iload_n hx hb d_m_clear_86 rfl (lv_at hl 2 rfl) ?_
      refine hw_put (k := 30) (i := 0) (n := 1) (j := 12) (v := x1) hx hb hts hown hK hLi hW hS fp_m_94 (vp_nar_int _) rfl rfl (by omega) d_m_clear_87 (fun H locs hW hS => ?_)
      refine lv_iload_n hx hb d_m_clear_90 rfl (lv_at hl 0 rfl) ?_
      exact hw_iret hx hb hr hlk (vp_nar_int _) hW hS (by omega) (by omega) d_m_clear_91 hF
    · replace hF := (if_neg h3).symm.trans hF
      refine lv_aload_n hx hb d_m_clear_26 rfl (lv_at hl 0 rfl) ?_
      refine hw_get (k := 30) (i := 0) (n := 1) (j := 11) (v := .ref (L 39 0)) hx hb hts hown hK hW fl_m_34 rfl (by omega) rfl d_m_clear_27 ?_
      refine lv_iload_n hx hb d_m_clear_30 rfl (lv_at hl 2 rfl) ?_
      obtain ⟨g4, hF⟩ := f_gd_some hF
      refine hw_zald (k := 39) (i := 0) (n := 1) hx hb hK hW (by decide) rfl (by omega) rfl g4 d_m_clear_31 ?_
      refine lv_if_eq (tgt := 38) hx hb d_m_clear_32 (by decide) (fun h5 => ?_) (fun h5 => ?_)
      · replace hF := (if_pos h5).symm.trans hF
        refine lv_aload_n hx hb d_m_clear_38 rfl (lv_at hl 0 rfl) ?_
        refine hw_get (k := 30) (i := 0) (n := 1) (j := 9) (v := .ref (L 37 0)) hx hb hts hown hK hW fl_m_28 rfl (by omega) rfl d_m_clear_39 ?_
        refine lv_iload_n hx hb d_m_clear_42 rfl (lv_at hl 1 rfl) ?_
        refine lv_aload_n hx hb d_m_clear_43 rfl (lv_at hl 0 rfl) ?_
        refine hw_get (k := 30) (i := 0) (n := 1) (j := 9) (v := .ref (L 37 0)) hx hb hts hown hK hW fl_m_28 rfl (by omega) rfl d_m_clear_44 ?_
        refine lv_iload_n hx hb d_m_clear_47 rfl (lv_at hl 2 rfl) ?_
        obtain ⟨g6, hF⟩ := f_gd_some hF
        refine hw_iald (k := 37) (i := 0) (n := 1) hx hb hK hW (by decide) rfl (by omega) rfl g6 d_m_clear_48 ?_
        obtain ⟨g7, hF⟩ := f_gd_some hF
        refine hw_iast (k := 37) (i := 0) (n := 1) hx hb hK hLi hW hS (by decide) rfl (by omega) rfl g7 d_m_clear_49 (fun H locs hW hS => ?_)
        refine lv_aload_n hx hb d_m_clear_50 rfl (lv_at hl 0 rfl) ?_
        refine hw_get (k := 30) (i := 0) (n := 1) (j := 10) (v := .ref (L 38 0)) hx hb hts hown hK hW fl_m_31 rfl (by omega) rfl d_m_clear_51 ?_
        refine lv_iload_n hx hb d_m_clear_54 rfl (lv_at hl 1 rfl) ?_
        refine lv_aload_n hx hb d_m_clear_55 rfl (lv_at hl 0 rfl) ?_
        refine hw_get (k := 30) (i := 0) (n := 1) (j := 10) (v := .ref (L 38 0)) hx hb hts hown hK hW fl_m_31 rfl (by omega) rfl d_m_clear_56 ?_
        refine lv_iload_n hx hb d_m_clear_59 rfl (lv_at hl 2 rfl) ?_
        obtain ⟨g8, hF⟩ := f_gd_some hF
        refine hw_iald (k := 38) (i := 0) (n := 1) hx hb hK hW (by decide) rfl (by omega) rfl g8 d_m_clear_60 ?_
        obtain ⟨g9, hF⟩ := f_gd_some hF
        refine hw_iast (k := 38) (i := 0) (n := 1) hx hb hK hLi hW hS (by decide) rfl (by omega) rfl g9 d_m_clear_61 (fun H locs hW hS => ?_)
        refine lv_aload_n hx hb d_m_clear_62 rfl (lv_at hl 0 rfl) ?_
        refine hw_get (k := 30) (i := 0) (n := 1) (j := 11) (v := .ref (L 39 0)) hx hb hts hown hK hW fl_m_34 rfl (by omega) rfl d_m_clear_63 ?_
        refine lv_iload_n hx hb d_m_clear_66 rfl (lv_at hl 1 rfl) ?_
        refine lv_iconst (v := 0) hx hb d_m_clear_67 (by decide) ?_
        obtain ⟨g10, hF⟩ := f_gd_some hF
        refine hw_zast (k := 39) (i := 0) (n := 1) hx hb hK hLi hW hS (by decide) rfl (by omega) rfl g10 (Or.inl rfl) d_m_clear_68 (fun H locs hW hS => ?_)
        refine lv_iinc (k := 1) (x := x1) (v := x1 + 1) (lv' := [(1, .int (x1 + 1)), (0, .ref (L 30 0)), (2, .int x2)]) hx hb d_m_clear_69 hl rfl rfl (by decide) rfl (fun ls hl => ?_)
        exact B72 k18 K18 (x1 + 1) x2 (f_pI (f_pI (f_pI z 37 0 (f_ix x1) (f_gI z 37 0 (f_ix x2))) 38 0 (f_ix x1) (f_gI (f_pI z 37 0 (f_ix x1) (f_gI z 37 0 (f_ix x2))) 38 0 (f_ix x2))) 39 0 (f_ix x1) 0) hF _ _ _ _ _ hW hS (lv_sub hl [1, 0, 2] rfl) (by omega) (by omega)
      · replace hF := (if_neg h5).symm.trans hF
        refine lv_goto (tgt := 72) hx hb d_m_clear_35 (by decide) ?_
        exact B72 k18 K18 x1 x2 z hF _ _ _ _ _ hW hS (lv_sub hl [0, 1, 2] rfl) (by omega) (by omega)
  intro H locs ls cells slots hW hS hl hc hs
  have hl : lv_has ls 3 [(0, .ref (L 30 0))] := hl
  unfold F_m_clear at hF
  refine lv_aload_n hx hb d_m_clear_0 rfl (lv_at hl 0 rfl) ?_
  refine lv_aload_n hx hb d_m_clear_1 rfl (lv_at hl 0 rfl) ?_
  refine hw_get (k := 30) (i := 0) (n := 1) (j := 17) (v := .int (f_gI z 30 0 17)) hx hb hts hown hK hW fl_m_55 rfl (by omega) rfl d_m_clear_2 ?_
  refine lv_iconst (v := 1) hx hb d_m_clear_5 (by decide) ?_
  obtain ⟨v1, z1, hc1, hF⟩ := f_bd_some hF
  refine hw_VR (k := 30) (i := 0) (nk := 1) (As := [.int (f_gI z 30 0 17), .int 1]) (rest := []) hx hb hml hown hts (c_m_fails_ok l hl0 hLi (f_gI z 30 0 17) 1  _ _ _ hc1) st_m_59 (by decide) rfl (by omega) rfl rfl hK hZ hsz hS hW rfl hl.1 (Nat.le_of_ble_eq_true rfl) d_m_clear_6 (by omega) (by omega) (by omega) (by omega) (fun H locs hW hS => ?_)
  refine lv_if_eq (tgt := 14) hx hb d_m_clear_9 (by decide) (fun h2 => ?_) (fun h2 => ?_)
  · replace hF := (if_pos h2).symm.trans hF
    refine lv_iconst (v := 0) hx hb d_m_clear_14 (by decide) ?_
    refine lv_istore_n (lv' := [(1, .int 0), (0, .ref (L 30 0))]) hx hb d_m_clear_15 rfl hl (by decide) rfl (fun ls hl => ?_)
    refine lv_iconst (v := 0) hx hb d_m_clear_16 (by decide) ?_
    refine lv_istore_n (lv' := [(2, .int 0), (1, .int 0), (0, .ref (L 30 0))]) hx hb d_m_clear_17 rfl hl (by decide) rfl (fun ls hl => ?_)
    exact B18 2000 0 0 z1 hF _ _ _ _ _ hW hS (lv_sub hl [2, 1, 0] rfl) (by omega) (by omega)
  · replace hF := (if_neg h2).symm.trans hF
    refine lv_iconst (v := 0) hx hb d_m_clear_12 (by decide) ?_
    exact hw_iret hx hb hr hlk (vp_nar_int _) hW hS (by omega) (by omega) d_m_clear_13 hF
set_option maxRecDepth 100000 in
set_option maxHeartbeats 4000000 in
theorem c_m_empty_ok (l : Launch) (hl0 : l.stackTraces = false) {L : Nat → Nat → Nat} {Ar : Nat → ClassId} {D : va_G} {b0 : Nat} (hLi : f_L L b0) (a1 : Int32) (a2 : Int32)  (z : fST) (r : Int32) (z' : fST) (hF : F_m_empty a1 a2 z = some (r, z')) : f_C l y_m_empty wt 2 0 L Ar D b0 [.ref (L 30 0), .int a1, .int a2] z (.inl (some (.int r))) z' := by
  refine f_ofW (cc := c_m_empty) (maxL := 4) (ret := (some FieldType.int)) (by decide) w_m_empty (Nat.le_of_ble_eq_true rfl) ?_
  intro p e s m args below meth c R hRf hRl hRc hRs hx hb hr hlk hml hno hts hown hK hZ hsz
  have B38 : ∀  (x1 : Int32) (x2 : Int32) (y1 : Int32) (z : fST), b_m_empty_38  x1 x2 y1 z = some (r, z') →  f_B p l e R s m args below meth c L Ar D b0 4 0 (f_E below args s L Ar D b0 0 (.inl (some (.int r))) z') 0 38 [(0, .ref (L 30 0)), (1, .int x1), (2, .int x2)] [.int y1, .ref (L 30 0)] z := by
    intro  x1 x2 y1 z hF  H locs ls cells slots hW hS hl hc hs
    unfold b_m_empty_38 at hF
    refine lv_iconst (v := 2) hx hb d_m_empty_38 (by decide) ?_
    obtain ⟨v7, z7, hc7, hF⟩ := f_bd_some hF
    refine hw_VR (k := 30) (i := 0) (nk := 1) (As := [.int y1, .int 2]) (rest := []) hx hb hml hown hts (c_m_fails_ok l hl0 hLi y1 2  _ _ _ hc7) st_m_59 (by decide) rfl (by omega) rfl rfl hK hZ hsz hS hW rfl hl.1 (Nat.le_of_ble_eq_true rfl) d_m_empty_39 (by omega) (by omega) (by omega) (by omega) (fun H locs hW hS => ?_)
    refine lv_if_eq (tgt := 47) hx hb d_m_empty_42 (by decide) (fun h8 => ?_) (fun h8 => ?_)
    · replace hF := (if_pos h8).symm.trans hF
      refine lv_aload_n hx hb d_m_empty_47 rfl (lv_at hl 0 rfl) ?_
      refine hw_get (k := 30) (i := 0) (n := 1) (j := 6) (v := .ref (L 35 0)) hx hb hts hown hK hW fl_m_22 rfl (by omega) rfl d_m_empty_48 ?_
      refine lv_iload_n hx hb d_m_empty_51 rfl (lv_at hl 1 rfl) ?_
      obtain ⟨g9, hF⟩ := f_gd_some hF
      refine hw_iald (k := 35) (i := 0) (n := 1) hx hb hK hW (by decide) rfl (by omega) rfl g9 d_m_empty_52 ?_
      refine lv_istore_n (lv' := [(3, .int (f_gI z7 35 0 (f_ix x1))), (0, .ref (L 30 0)), (1, .int x1), (2, .int x2)]) hx hb d_m_empty_53 rfl hl (by decide) rfl (fun ls hl => ?_)
      refine lv_aload_n hx hb d_m_empty_54 rfl (lv_at hl 1 rfl) ?_
      refine hw_get (k := 30) (i := 0) (n := 1) (j := 6) (v := .ref (L 35 0)) hx hb hts hown hK hW fl_m_22 rfl (by omega) rfl d_m_empty_55 ?_
      refine lv_iload_n hx hb d_m_empty_58 rfl (lv_at hl 2 rfl) ?_
      refine lv_iconst (v := 0) hx hb d_m_empty_59 (by decide) ?_
      obtain ⟨g10, hF⟩ := f_gd_some hF
      refine hw_iast (k := 35) (i := 0) (n := 1) hx hb hK hLi hW hS (by decide) rfl (by omega) rfl g10 d_m_empty_60 (fun H locs hW hS => ?_)
      refine lv_aload_n hx hb d_m_empty_61 rfl (lv_at hl 1 rfl) ?_
      refine hw_get (k := 30) (i := 0) (n := 1) (j := 7) (v := .ref (L 36 0)) hx hb hts hown hK hW fl_m_25 rfl (by omega) rfl d_m_empty_62 ?_
      refine lv_iload_n hx hb d_m_empty_65 rfl (lv_at hl 2 rfl) ?_
      refine lv_iload_n hx hb d_m_empty_66 rfl (lv_at hl 3 rfl) ?_
      obtain ⟨g11, hF⟩ := f_gd_some hF
      refine hw_iast (k := 36) (i := 0) (n := 1) hx hb hK hLi hW hS (by decide) rfl (by omega) rfl g11 d_m_empty_67 (fun H locs hW hS => ?_)
      refine lv_iload_n hx hb d_m_empty_68 rfl (lv_at hl 0 rfl) ?_
      exact hw_iret hx hb hr hlk (vp_nar_int _) hW hS (by omega) (by omega) d_m_empty_69 hF
    · replace hF := (if_neg h8).symm.trans hF
      refine lv_iconst (v := 0) hx hb d_m_empty_45 (by decide) ?_
      exact hw_iret hx hb hr hlk (vp_nar_int _) hW hS (by omega) (by omega) d_m_empty_46 hF
  have B33 : ∀  (x1 : Int32) (x2 : Int32) (z : fST), b_m_empty_33  x1 x2 z = some (r, z') →  f_B p l e R s m args below meth c L Ar D b0 4 0 (f_E below args s L Ar D b0 0 (.inl (some (.int r))) z') 0 33 [(0, .ref (L 30 0)), (1, .int x1), (2, .int x2)] [.ref (L 30 0)] z := by
    intro  x1 x2 z hF  H locs ls cells slots hW hS hl hc hs
    unfold b_m_empty_33 at hF
    refine lv_iconst (v := 1) hx hb d_m_empty_33 (by decide) ?_
    refine lv_goto (tgt := 38) hx hb d_m_empty_34 (by decide) ?_
    exact B38 x1 x2 1 z hF _ _ _ _ _ hW hS (lv_sub hl [0, 1, 2] rfl) (by omega) (by omega)
  intro H locs ls cells slots hW hS hl hc hs
  have hl : lv_has ls 4 [(0, .ref (L 30 0)), (1, .int a1), (2, .int a2)] := hl
  unfold F_m_empty at hF
  refine lv_aload_n hx hb d_m_empty_0 rfl (lv_at hl 0 rfl) ?_
  refine lv_aload_n hx hb d_m_empty_1 rfl (lv_at hl 0 rfl) ?_
  refine hw_get (k := 30) (i := 0) (n := 1) (j := 17) (v := .int (f_gI z 30 0 17)) hx hb hts hown hK hW fl_m_55 rfl (by omega) rfl d_m_empty_2 ?_
  refine lv_iconst (v := 1) hx hb d_m_empty_5 (by decide) ?_
  obtain ⟨v1, z1, hc1, hF⟩ := f_bd_some hF
  refine hw_VR (k := 30) (i := 0) (nk := 1) (As := [.int (f_gI z 30 0 17), .int 1]) (rest := []) hx hb hml hown hts (c_m_fails_ok l hl0 hLi (f_gI z 30 0 17) 1  _ _ _ hc1) st_m_59 (by decide) rfl (by omega) rfl rfl hK hZ hsz hS hW rfl hl.1 (Nat.le_of_ble_eq_true rfl) d_m_empty_6 (by omega) (by omega) (by omega) (by omega) (fun H locs hW hS => ?_)
  refine lv_if_ne (tgt := 45) hx hb d_m_empty_9 (by decide) (fun h2 => ?_) (fun h2 => ?_)
  · replace hF := (if_neg h2).symm.trans hF
    refine lv_iconst (v := 0) hx hb d_m_empty_45 (by decide) ?_
    exact hw_iret hx hb hr hlk (vp_nar_int _) hW hS (by omega) (by omega) d_m_empty_46 hF
  · replace hF := (if_pos h2).symm.trans hF
    refine lv_aload_n hx hb d_m_empty_12 rfl (lv_at hl 0 rfl) ?_
    refine lv_iload_n hx hb d_m_empty_13 rfl (lv_at hl 1 rfl) ?_
    refine lv_iconst (v := 0) hx hb d_m_empty_14 (by decide) ?_
    refine lv_iconst (v := 2) hx hb d_m_empty_15 (by decide) ?_
    obtain ⟨v3, z3, hc3, hF⟩ := f_bd_some hF
    refine hw_SR (As := [.int a1, .int 0, .int 2]) (rest := [.ref (L 30 0)]) hx hb hml hown hts (c_m_within_ok l hl0 hLi a1 0 2  _ _ _ hc3) st_m_63 hK hZ hsz hS hW rfl hl.1 (Nat.le_of_ble_eq_true rfl) d_m_empty_16 (by omega) (by omega) (by omega) (by omega) (fun H locs hW hS => ?_)
    refine lv_if_eq (tgt := 33) hx hb d_m_empty_19 (by decide) (fun h4 => ?_) (fun h4 => ?_)
    · replace hF := (if_pos h4).symm.trans hF
      exact B33 a1 a2 z3 hF _ _ _ _ _ hW hS (lv_sub hl [0, 1, 2] rfl) (by omega) (by omega)
    · replace hF := (if_neg h4).symm.trans hF
      refine lv_iload_n hx hb d_m_empty_22 rfl (lv_at hl 2 rfl) ?_
      refine lv_iconst (v := 0) hx hb d_m_empty_23 (by decide) ?_
      refine lv_sipush (v := 200) hx hb d_m_empty_24 (by decide) ?_
      obtain ⟨v5, z5, hc5, hF⟩ := f_bd_some hF
      refine hw_SR (As := [.int a2, .int 0, .int 200]) (rest := [.ref (L 30 0)]) hx hb hml hown hts (c_m_within_ok l hl0 hLi a2 0 200  _ _ _ hc5) st_m_63 hK hZ hsz hS hW rfl hl.1 (Nat.le_of_ble_eq_true rfl) d_m_empty_27 (by omega) (by omega) (by omega) (by omega) (fun H locs hW hS => ?_)
      refine lv_if_ne (tgt := 37) hx hb d_m_empty_30 (by decide) (fun h6 => ?_) (fun h6 => ?_)
      · replace hF := (if_neg h6).symm.trans hF
        refine lv_iconst (v := 0) hx hb d_m_empty_37 (by decide) ?_
        exact B38 a1 a2 0 z5 hF _ _ _ _ _ hW hS (lv_sub hl [0, 1, 2] rfl) (by omega) (by omega)
      · replace hF := (if_pos h6).symm.trans hF
        exact B33 a1 a2 z5 hF _ _ _ _ _ hW hS (lv_sub hl [0, 1, 2] rfl) (by omega) (by omega)
set_option maxRecDepth 100000 in
set_option maxHeartbeats 4000000 in
theorem c_m_service_ok (l : Launch) (hl0 : l.stackTraces = false) {L : Nat → Nat → Nat} {Ar : Nat → ClassId} {D : va_G} {b0 : Nat} (hLi : f_L L b0)   (z : fST) (r : Int32) (z' : fST) (hF : F_m_service  z = some (r, z')) : f_C l y_m_service wt 2 0 L Ar D b0 [.ref (L 30 0)] z (.inl (some (.int r))) z' := by
  refine f_ofW (cc := c_m_service) (maxL := 2) (ret := (some FieldType.boolean)) (by decide) w_m_service (Nat.le_of_ble_eq_true rfl) ?_
  intro p e s m args below meth c R hRf hRl hRc hRs hx hb hr hlk hml hno hts hown hK hZ hsz
  have B20 : ∀  (y1 : Int32) (z : fST), b_m_service_20  y1 z = some (r, z') →  f_B p l e R s m args below meth c L Ar D b0 2 0 (f_E below args s L Ar D b0 0 (.inl (some (.int r))) z') 0 20 [(0, .ref (L 30 0))] [.int y1, .ref (L 30 0)] z := by
    intro  y1 z hF  H locs ls cells slots hW hS hl hc hs
    unfold b_m_service_20 at hF
    refine lv_iconst (v := 1) hx hb d_m_service_20 (by decide) ?_
    obtain ⟨v3, z3, hc3, hF⟩ := f_bd_some hF
    refine hw_VR (k := 30) (i := 0) (nk := 1) (As := [.int y1, .int 1]) (rest := []) hx hb hml hown hts (c_m_fails_ok l hl0 hLi y1 1  _ _ _ hc3) st_m_59 (by decide) rfl (by omega) rfl rfl hK hZ hsz hS hW rfl hl.1 (Nat.le_of_ble_eq_true rfl) d_m_service_21 (by omega) (by omega) (by omega) (by omega) (fun H locs hW hS => ?_)
    refine lv_if_eq (tgt := 29) hx hb d_m_service_24 (by decide) (fun h4 => ?_) (fun h4 => ?_)
    · replace hF := (if_pos h4).symm.trans hF
      refine lv_aload_n hx hb d_m_service_29 rfl (lv_at hl 0 rfl) ?_
      obtain ⟨v5, z5, hc5, hF⟩ := f_bd_some hF
      refine hw_VR (k := 30) (i := 0) (nk := 1) (As := []) (rest := []) hx hb hml hown hts (c_m_isSuspicious_ok l hl0 hLi   _ _ _ hc5) st_m_97 (by decide) rfl (by omega) rfl rfl hK hZ hsz hS hW rfl hl.1 (Nat.le_of_ble_eq_true rfl) d_m_service_30 (by omega) (by omega) (by omega) (by omega) (fun H locs hW hS => ?_)
      refine lv_istore_n (lv' := [(1, .int v5), (0, .ref (L 30 0))]) hx hb d_m_service_33 rfl hl (by decide) rfl (fun ls hl => ?_)
      refine lv_aload_n hx hb d_m_service_34 rfl (lv_at hl 1 rfl) ?_
      refine lv_iconst (v := 0) hx hb d_m_service_35 (by decide) ?_
      refine hw_put (k := 30) (i := 0) (n := 1) (j := 16) (v := 0) hx hb hts hown hK hLi hW hS fp_m_91 (vp_nar_int _) rfl rfl (by omega) d_m_service_36 (fun H locs hW hS => ?_)
      refine lv_iload_n hx hb d_m_service_39 rfl (lv_at hl 0 rfl) ?_
      obtain ⟨g6, hF⟩ := f_gd_some hF
      exact hw_iret hx hb hr hlk (f_nZ (f_bz_or g6)) hW hS (by omega) (by omega) d_m_service_40 hF
    · replace hF := (if_neg h4).symm.trans hF
      refine lv_iconst (v := 0) hx hb d_m_service_27 (by decide) ?_
      exact hw_iret hx hb hr hlk (f_nZ (Or.inl rfl)) hW hS (by omega) (by omega) d_m_service_28 hF
  have B15 : ∀   (z : fST), b_m_service_15  z = some (r, z') →  f_B p l e R s m args below meth c L Ar D b0 2 0 (f_E below args s L Ar D b0 0 (.inl (some (.int r))) z') 0 15 [(0, .ref (L 30 0))] [.ref (L 30 0)] z := by
    intro  z hF  H locs ls cells slots hW hS hl hc hs
    unfold b_m_service_15 at hF
    refine lv_iconst (v := 1) hx hb d_m_service_15 (by decide) ?_
    refine lv_goto (tgt := 20) hx hb d_m_service_16 (by decide) ?_
    exact B20 1 z hF _ _ _ _ _ hW hS (lv_sub hl [0] rfl) (by omega) (by omega)
  intro H locs ls cells slots hW hS hl hc hs
  have hl : lv_has ls 2 [(0, .ref (L 30 0))] := hl
  unfold F_m_service at hF
  refine lv_aload_n hx hb d_m_service_0 rfl (lv_at hl 0 rfl) ?_
  refine lv_aload_n hx hb d_m_service_1 rfl (lv_at hl 0 rfl) ?_
  refine hw_get (k := 30) (i := 0) (n := 1) (j := 17) (v := .int (f_gI z 30 0 17)) hx hb hts hown hK hW fl_m_55 rfl (by omega) rfl d_m_service_2 ?_
  refine lv_if_ne (tgt := 15) hx hb d_m_service_5 (by decide) (fun h1 => ?_) (fun h1 => ?_)
  · replace hF := (if_neg h1).symm.trans hF
    exact B15 z hF _ _ _ _ _ hW hS (lv_sub hl [0] rfl) (by omega) (by omega)
  · replace hF := (if_pos h1).symm.trans hF
    refine lv_aload_n hx hb d_m_service_8 rfl (lv_at hl 0 rfl) ?_
    refine hw_get (k := 30) (i := 0) (n := 1) (j := 4) (v := .int (f_gI z 30 0 4)) hx hb hts hown hK hW fl_m_52 rfl (by omega) rfl d_m_service_9 ?_
    refine lv_if_le (tgt := 19) hx hb d_m_service_12 (by decide) (fun h2 => ?_) (fun h2 => ?_)
    · replace hF := (if_pos h2).symm.trans hF
      refine lv_iconst (v := 0) hx hb d_m_service_19 (by decide) ?_
      exact B20 0 z hF _ _ _ _ _ hW hS (lv_sub hl [0] rfl) (by omega) (by omega)
    · replace hF := (if_neg h2).symm.trans hF
      exact B15 z hF _ _ _ _ _ hW hS (lv_sub hl [0] rfl) (by omega) (by omega)
set_option maxRecDepth 100000 in
set_option maxHeartbeats 4000000 in
theorem c_m_cut_ok (l : Launch) (hl0 : l.stackTraces = false) {L : Nat → Nat → Nat} {Ar : Nat → ClassId} {D : va_G} {b0 : Nat} (hLi : f_L L b0) (a1 : Int32)  (z : fST) (r : Unit) (z' : fST) (hF : F_m_cut a1 z = some (r, z')) : f_C l y_m_cut wt 2 0 L Ar D b0 [.ref (L 30 0), .int a1] z (.inl none) z' := by
  refine f_ofW (cc := c_m_cut) (maxL := 2) (ret := (Option.none : Option Jvm.ClassFile.FieldType)) (by decide) w_m_cut (Nat.le_of_ble_eq_true rfl) ?_
  intro p e s m args below meth c R hRf hRl hRc hRs hx hb hr hlk hml hno hts hown hK hZ hsz
  have B17 : ∀  (x1 : Int32) (y1 : Int32) (z : fST), b_m_cut_17  x1 y1 z = some (r, z') →  f_B p l e R s m args below meth c L Ar D b0 2 0 (f_E below args s L Ar D b0 0 (.inl none) z') 0 17 [(0, .ref (L 30 0)), (1, .int x1)] [.int y1, .ref (L 30 0)] z := by
    intro  x1 y1 z hF  H locs ls cells slots hW hS hl hc hs
    unfold b_m_cut_17 at hF
    refine lv_iconst (v := 1) hx hb d_m_cut_17 (by decide) ?_
    obtain ⟨v3, z3, hc3, hF⟩ := f_bd_some hF
    refine hw_VR (k := 30) (i := 0) (nk := 1) (As := [.int y1, .int 1]) (rest := []) hx hb hml hown hts (c_m_fails_ok l hl0 hLi y1 1  _ _ _ hc3) st_m_59 (by decide) rfl (by omega) rfl rfl hK hZ hsz hS hW rfl hl.1 (Nat.le_of_ble_eq_true rfl) d_m_cut_18 (by omega) (by omega) (by omega) (by omega) (fun H locs hW hS => ?_)
    refine lv_if_eq (tgt := 25) hx hb d_m_cut_21 (by decide) (fun h4 => ?_) (fun h4 => ?_)
    · replace hF := (if_pos h4).symm.trans hF
      refine lv_aload_n hx hb d_m_cut_25 rfl (lv_at hl 0 rfl) ?_
      refine lv_iload_n hx hb d_m_cut_26 rfl (lv_at hl 1 rfl) ?_
      refine hw_put (k := 30) (i := 0) (n := 1) (j := 18) (v := x1) hx hb hts hown hK hLi hW hS fp_m_85 (vp_nar_int _) rfl rfl (by omega) d_m_cut_27 (fun H locs hW hS => ?_)
      exact hw_vret hx hb hr hlk hW hS (by omega) (by omega) d_m_cut_30 hF
    · replace hF := (if_neg h4).symm.trans hF
      exact hw_vret hx hb hr hlk hW hS (by omega) (by omega) d_m_cut_24 hF
  intro H locs ls cells slots hW hS hl hc hs
  have hl : lv_has ls 2 [(0, .ref (L 30 0)), (1, .int a1)] := hl
  unfold F_m_cut at hF
  refine lv_aload_n hx hb d_m_cut_0 rfl (lv_at hl 0 rfl) ?_
  refine lv_iload_n hx hb d_m_cut_1 rfl (lv_at hl 1 rfl) ?_
  refine lv_iconst (v := 0) hx hb d_m_cut_2 (by decide) ?_
  refine lv_sipush (v := 1000) hx hb d_m_cut_3 (by decide) ?_
  obtain ⟨v1, z1, hc1, hF⟩ := f_bd_some hF
  refine hw_SR (As := [.int a1, .int 0, .int 1000]) (rest := [.ref (L 30 0)]) hx hb hml hown hts (c_m_within_ok l hl0 hLi a1 0 1000  _ _ _ hc1) st_m_63 hK hZ hsz hS hW rfl hl.1 (Nat.le_of_ble_eq_true rfl) d_m_cut_6 (by omega) (by omega) (by omega) (by omega) (fun H locs hW hS => ?_)
  refine lv_if_ne (tgt := 16) hx hb d_m_cut_9 (by decide) (fun h2 => ?_) (fun h2 => ?_)
  · replace hF := (if_neg h2).symm.trans hF
    refine lv_iconst (v := 0) hx hb d_m_cut_16 (by decide) ?_
    exact B17 a1 0 z1 hF _ _ _ _ _ hW hS (lv_sub hl [0, 1] rfl) (by omega) (by omega)
  · replace hF := (if_pos h2).symm.trans hF
    refine lv_iconst (v := 1) hx hb d_m_cut_12 (by decide) ?_
    refine lv_goto (tgt := 17) hx hb d_m_cut_13 (by decide) ?_
    exact B17 a1 1 z1 hF _ _ _ _ _ hW hS (lv_sub hl [0, 1] rfl) (by omega) (by omega)
