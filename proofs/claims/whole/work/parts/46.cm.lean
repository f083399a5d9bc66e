/-! contracts: the method does what its pure function says -/
set_option maxRecDepth 100000 in
set_option maxHeartbeats 4000000 in
theorem c_m_bin_ok (l : Launch) (hl0 : l.stackTraces = false) {L : Nat → Nat → Nat} {Ar : Nat → ClassId} {D : va_G} {b0 : Nat} (hLi : f_L L b0) (a1 : Int32) (a2 : Int32)  (z : fST) (r : Int32) (z' : fST) (hF : F_m_bin a1 a2 z = some (r, z')) : f_C l y_m_bin wt 2 0 L Ar D b0 [.ref (L 30 0), .int a1, .int a2] z (.inl (some (.int r))) z' := by
  refine f_ofW (cc := c_m_bin) (maxL := 3) (ret := (some FieldType.int)) (by decide) w_m_bin (Nat.le_of_ble_eq_true rfl) ?_
  intro p e s m args below meth c R hRf hRl hRc hRs hx hb hr hlk hml hno hts hown hK hZ hsz
  have B24 : ∀  (x1 : Int32) (x2 : Int32) (y1 : Int32) (z : fST), b_m_bin_24  x1 x2 y1 z = some (r, z') →  f_B p l e R s m args below meth c L Ar D b0 3 0 (f_E below args s L Ar D b0 0 (.inl (some (.int r))) z') 0 24 [(0, .ref (L 30 0)), (1, .int x1), (2, .int x2)] [.int y1, .ref (L 30 0)] z := by
    intro  x1 x2 y1 z hF  H locs ls cells slots hW hS hl hc hs
    unfold b_m_bin_24 at hF
    refine lv_iconst (v := 1) hx hb d_m_bin_24 (by decide) ?_
    obtain ⟨v5, z5, hc5, hF⟩ := f_bd_some hF
    refine hw_VR (k := 30) (i := 0) (nk := 1) (As := [.int y1, .int 1]) (rest := []) hx hb hml hown hts (c_m_fails_ok l hl0 hLi y1 1  _ _ _ hc5) st_m_59 (by decide) rfl (by omega) rfl rfl hK hZ hsz hS hW rfl hl.1 (Nat.le_of_ble_eq_true rfl) d_m_bin_25 (by omega) (by omega) (by omega) (by omega) (fun H locs hW hS => ?_)
    refine lv_if_eq (tgt := 33) hx hb d_m_bin_28 (by decide) (fun h6 => ?_) (fun h6 => ?_)
    · replace hF := (if_pos h6).symm.trans hF
      refine lv_iload_n hx hb d_m_bin_33 rfl (lv_at hl 2 rfl) ?_
      refine lv_if_ne (tgt := 46) hx hb d_m_bin_34 (by decide) (fun h7 => ?_) (fun h7 => ?_)
      · replace hF := (if_neg h7).symm.trans hF
        refine lv_aload_n hx hb d_m_bin_46 rfl (lv_at hl 0 rfl) ?_
        refine hw_get (k := 30) (i := 0) (n := 1) (j := 7) (v := .ref (L 36 0)) hx hb hts hown hK hW fl_m_25 rfl (by omega) rfl d_m_bin_47 ?_
        refine lv_iload_n hx hb d_m_bin_50 rfl (lv_at hl 1 rfl) ?_
        obtain ⟨g8, hF⟩ := f_gd_some hF
        refine hw_iald (k := 36) (i := 0) (n := 1) hx hb hK hW (by decide) rfl (by omega) rfl g8 d_m_bin_51 ?_
        exact hw_iret hx hb hr hlk (vp_nar_int _) hW hS (by omega) (by omega) d_m_bin_52 hF
      · replace hF := (if_pos h7).symm.trans hF
        refine lv_aload_n hx hb d_m_bin_37 rfl (lv_at hl 0 rfl) ?_
        refine hw_get (k := 30) (i := 0) (n := 1) (j := 6) (v := .ref (L 35 0)) hx hb hts hown hK hW fl_m_22 rfl (by omega) rfl d_m_bin_38 ?_
        refine lv_iload_n hx hb d_m_bin_41 rfl (lv_at hl 1 rfl) ?_
        obtain ⟨g9, hF⟩ := f_gd_some hF
        refine hw_iald (k := 35) (i := 0) (n := 1) hx hb hK hW (by decide) rfl (by omega) rfl g9 d_m_bin_42 ?_
        refine lv_goto (tgt := 52) hx hb d_m_bin_43 (by decide) ?_
        exact hw_iret hx hb hr hlk (vp_nar_int _) hW hS (by omega) (by omega) d_m_bin_52 hF
    · replace hF := (if_neg h6).symm.trans hF
      refine lv_iconst (v := 0) hx hb d_m_bin_31 (by decide) ?_
      exact hw_iret hx hb hr hlk (vp_nar_int _) hW hS (by omega) (by omega) d_m_bin_32 hF
  have B19 : ∀  (x1 : Int32) (x2 : Int32) (z : fST), b_m_bin_19  x1 x2 z = some (r, z') →  f_B p l e R s m args below meth c L Ar D b0 3 0 (f_E below args s L Ar D b0 0 (.inl (some (.int r))) z') 0 19 [(0, .ref (L 30 0)), (1, .int x1), (2, .int x2)] [.ref (L 30 0)] z := by
    intro  x1 x2 z hF  H locs ls cells slots hW hS hl hc hs
    unfold b_m_bin_19 at hF
    refine lv_iconst (v := 1) hx hb d_m_bin_19 (by decide) ?_
    refine lv_goto (tgt := 24) hx hb d_m_bin_20 (by decide) ?_
    exact B24 x1 x2 1 z hF _ _ _ _ _ hW hS (lv_sub hl [0, 1, 2] rfl) (by omega) (by omega)
  intro H locs ls cells slots hW hS hl hc hs
  have hl : lv_has ls 3 [(0, .ref (L 30 0)), (1, .int a1), (2, .int a2)] := hl
  unfold F_m_bin at hF
  refine lv_aload_n hx hb d_m_bin_0 rfl (lv_at hl 0 rfl) ?_
  refine lv_iload_n hx hb d_m_bin_1 rfl (lv_at hl 1 rfl) ?_
  refine lv_iconst (v := 0) hx hb d_m_bin_2 (by decide) ?_
  refine lv_iconst (v := 2) hx hb d_m_bin_3 (by decide) ?_
  obtain ⟨v1, z1, hc1, hF⟩ := f_bd_some hF
  refine hw_SR (As := [.int a1, .int 0, .int 2]) (rest := [.ref (L 30 0)]) hx hb hml hown hts (c_m_within_ok l hl0 hLi a1 0 2  _ _ _ hc1) st_m_63 hK hZ hsz hS hW rfl hl.1 (Nat.le_of_ble_eq_true rfl) d_m_bin_4 (by omega) (by omega) (by omega) (by omega) (fun H locs hW hS => ?_)
  refine lv_if_eq (tgt := 19) hx hb d_m_bin_7 (by decide) (fun h2 => ?_) (fun h2 => ?_)
  · replace hF := (if_pos h2).symm.trans hF
    exact B19 a1 a2 z1 hF _ _ _ _ _ hW hS (lv_sub hl [0, 1, 2] rfl) (by omega) (by omega)
  · replace hF := (if_neg h2).symm.trans hF
    refine lv_iload_n hx hb d_m_bin_10 rfl (lv_at hl 2 rfl) ?_
    refine lv_iconst (v := 0) hx hb d_m_bin_11 (by decide) ?_
    refine lv_iconst (v := 1) hx hb d_m_bin_12 (by decide) ?_
    obtain ⟨v3, z3, hc3, hF⟩ := f_bd_some hF
    refine hw_SR (As := [.int a2, .int 0, .int 1]) (rest := [.ref (L 30 0)]) hx hb hml hown hts (c_m_within_ok l hl0 hLi a2 0 1  _ _ _ hc3) st_m_63 hK hZ hsz hS hW rfl hl.1 (Nat.le_of_ble_eq_true rfl) d_m_bin_13 (by omega) (by omega) (by omega) (by omega) (fun H locs hW hS => ?_)
    refine lv_if_ne (tgt := 23) hx hb d_m_bin_16 (by decide) (fun h4 => ?_) (fun h4 => ?_)
    · replace hF := (if_neg h4).symm.trans hF
      refine lv_iconst (v := 0) hx hb d_m_bin_23 (by decide) ?_
      exact B24 a1 a2 0 z3 hF _ _ _ _ _ hW hS (lv_sub hl [0, 1, 2] rfl) (by omega) (by omega)
    · replace hF := (if_pos h4).symm.trans hF
      exact B19 a1 a2 z3 hF _ _ _ _ _ hW hS (lv_sub hl [0, 1, 2] rfl) (by omega) (by omega)
set_option maxRecDepth 100000 in
set_option maxHeartbeats 4000000 in
theorem c_m_total_ok (l : Launch) (hl0 : l.stackTraces = false) {L : Nat → Nat → Nat} {Ar : Nat → ClassId} {D : va_G} {b0 : Nat} (hLi : f_L L b0) (a1 : Int32)  (z : fST) (r : Int32) (z' : fST) (hF : F_m_total a1 z = some (r, z')) : f_C l y_m_total wt 3 0 L Ar D b0 [.ref (L 30 0), .int a1] z (.inl (some (.int r))) z' := by
  refine f_ofW (cc := c_m_total) (maxL := 2) (ret := (some FieldType.int)) (by decide) w_m_total (Nat.le_of_ble_eq_true rfl) ?_
  intro p e s m args below meth c R hRf hRl hRc hRs hx hb hr hlk hml hno hts hown hK hZ hsz
  have B42 : ∀  (x1 : Int32) (z : fST), b_m_total_42  x1 z = some (r, z') →  f_B p l e R s m args below meth c L Ar D b0 2 0 (f_E below args s L Ar D b0 0 (.inl (some (.int r))) z') 0 42 [(0, .ref (L 30 0)), (1, .int x1)] [] z := by
    intro  x1 z hF  H locs ls cells slots hW hS hl hc hs
    unfold b_m_total_42 at hF
    refine lv_iload_n hx hb d_m_total_42 rfl (lv_at hl 1 rfl) ?_
    refine lv_topi (fun w8 e9 => ?_)
    rw [← e9] at hF
    by_cases h10 : w8 = 0
    · replace hF := (if_pos h10).symm.trans hF
      subst h10
      refine lv_tableIn (tgt := 136) hx hb d_m_total_43 (by decide) (by decide) rfl (by decide) ?_
      refine lv_aload_n hx hb d_m_total_136 rfl (lv_at hl 0 rfl) ?_
      refine hw_get (k := 30) (i := 0) (n := 1) (j := 8) (v := .int (f_gI z 30 0 8)) hx hb hts hown hK hW fl_m_110 rfl (by omega) rfl d_m_total_137 ?_
      exact hw_iret hx hb hr hlk (vp_nar_int _) hW hS (by omega) (by omega) d_m_total_140 hF
    replace hF := (if_neg h10).symm.trans hF
    by_cases h11 : w8 = 10
    · replace hF := (if_pos h11).symm.trans hF
      subst h11
      refine lv_tableIn (tgt := 141) hx hb d_m_total_43 (by decide) (by decide) rfl (by decide) ?_
      refine lv_aload_n hx hb d_m_total_141 rfl (lv_at hl 0 rfl) ?_
      refine hw_get (k := 30) (i := 0) (n := 1) (j := 21) (v := .int (f_gI z 30 0 21)) hx hb hts hown hK hW fl_m_113 rfl (by omega) rfl d_m_total_142 ?_
      exact hw_iret hx hb hr hlk (vp_nar_int _) hW hS (by omega) (by omega) d_m_total_145 hF
    replace hF := (if_neg h11).symm.trans hF
    by_cases h12 : w8 = 11
    · replace hF := (if_pos h12).symm.trans hF
      subst h12
      refine lv_tableIn (tgt := 146) hx hb d_m_total_43 (by decide) (by decide) rfl (by decide) ?_
      refine lv_aload_n hx hb d_m_total_146 rfl (lv_at hl 0 rfl) ?_
      refine hw_get (k := 30) (i := 0) (n := 1) (j := 22) (v := .int (f_gI z 30 0 22)) hx hb hts hown hK hW fl_m_116 rfl (by omega) rfl d_m_total_147 ?_
      exact hw_iret hx hb hr hlk (vp_nar_int _) hW hS (by omega) (by omega) d_m_total_150 hF
    replace hF := (if_neg h12).symm.trans hF
    by_cases h13 : w8 = 12
    · replace hF := (if_pos h13).symm.trans hF
      subst h13
      refine lv_tableIn (tgt := 151) hx hb d_m_total_43 (by decide) (by decide) rfl (by decide) ?_
      refine lv_aload_n hx hb d_m_total_151 rfl (lv_at hl 0 rfl) ?_
      refine hw_get (k := 30) (i := 0) (n := 1) (j := 23) (v := .int (f_gI z 30 0 23)) hx hb hts hown hK hW fl_m_142 rfl (by omega) rfl d_m_total_152 ?_
      exact hw_iret hx hb hr hlk (vp_nar_int _) hW hS (by omega) (by omega) d_m_total_155 hF
    replace hF := (if_neg h13).symm.trans hF
    by_cases h14 : w8 = 13
    · replace hF := (if_pos h14).symm.trans hF
      subst h14
      refine lv_tableIn (tgt := 156) hx hb d_m_total_43 (by decide) (by decide) rfl (by decide) ?_
      refine lv_aload_n hx hb d_m_total_156 rfl (lv_at hl 0 rfl) ?_
      refine hw_get (k := 30) (i := 0) (n := 1) (j := 24) (v := .int (f_gI z 30 0 24)) hx hb hts hown hK hW fl_m_145 rfl (by omega) rfl d_m_total_157 ?_
      exact hw_iret hx hb hr hlk (vp_nar_int _) hW hS (by omega) (by omega) d_m_total_160 hF
    replace hF := (if_neg h14).symm.trans hF
    by_cases h15 : w8 = 14
    · replace hF := (if_pos h15).symm.trans hF
      subst h15
      refine lv_tableIn (tgt := 161) hx hb d_m_total_43 (by decide) (by decide) rfl (by decide) ?_
      refine lv_aload_n hx hb d_m_total_161 rfl (lv_at hl 0 rfl) ?_
      refine hw_get (k := 30) (i := 0) (n := 1) (j := 12) (v := .int (f_gI z 30 0 12)) hx hb hts hown hK hW fl_m_94 rfl (by omega) rfl d_m_total_162 ?_
      exact hw_iret hx hb hr hlk (vp_nar_int _) hW hS (by omega) (by omega) d_m_total_165 hF
    replace hF := (if_neg h15).symm.trans hF
    by_cases h16 : w8 = 15
    · replace hF := (if_pos h16).symm.trans hF
      subst h16
      refine lv_tableIn (tgt := 166) hx hb d_m_total_43 (by decide) (by decide) rfl (by decide) ?_
      refine lv_aload_n hx hb d_m_total_166 rfl (lv_at hl 0 rfl) ?_
      refine hw_get (k := 30) (i := 0) (n := 1) (j := 4) (v := .int (f_gI z 30 0 4)) hx hb hts hown hK hW fl_m_52 rfl (by omega) rfl d_m_total_167 ?_
      exact hw_iret hx hb hr hlk (vp_nar_int _) hW hS (by omega) (by omega) d_m_total_170 hF
    replace hF := (if_neg h16).symm.trans hF
    by_cases h17 : w8 = 16
    · replace hF := (if_pos h17).symm.trans hF
      subst h17
      refine lv_tableIn (tgt := 171) hx hb d_m_total_43 (by decide) (by decide) rfl (by decide) ?_
      refine lv_aload_n hx hb d_m_total_171 rfl (lv_at hl 0 rfl) ?_
      refine hw_get (k := 30) (i := 0) (n := 1) (j := 17) (v := .int (f_gI z 30 0 17)) hx hb hts hown hK hW fl_m_55 rfl (by omega) rfl d_m_total_172 ?_
      refine lv_if_eq (tgt := 182) hx hb d_m_total_175 (by decide) (fun h18 => ?_) (fun h18 => ?_)
      · replace hF := (if_pos h18).symm.trans hF
        refine lv_iconst (v := 1) hx hb d_m_total_182 (by decide) ?_
        exact hw_iret hx hb hr hlk (vp_nar_int _) hW hS (by omega) (by omega) d_m_total_183 hF
      · replace hF := (if_neg h18).symm.trans hF
        refine lv_iconst (v := 0) hx hb d_m_total_178 (by decide) ?_
        refine lv_goto (tgt := 183) hx hb d_m_total_179 (by decide) ?_
        exact hw_iret hx hb hr hlk (vp_nar_int _) hW hS (by omega) (by omega) d_m_total_183 hF
    replace hF := (if_neg h17).symm.trans hF
    by_cases h19 : w8 = 17
    · replace hF := (if_pos h19).symm.trans hF
      subst h19
      refine lv_tableIn (tgt := 184) hx hb d_m_total_43 (by decide) (by decide) rfl (by decide) ?_
      refine lv_aload_n hx hb d_m_total_184 rfl (lv_at hl 0 rfl) ?_
      obtain ⟨v20, z20, hc20, hF⟩ := f_bd_some hF
      refine hw_VR (k := 30) (i := 0) (nk := 1) (As := []) (rest := []) hx hb hml hown hts (c_m_isBlocked_ok l hl0 hLi   _ _ _ hc20) st_m_123 (by decide) rfl (by omega) rfl rfl hK hZ hsz hS hW rfl hl.1 (Nat.le_of_ble_eq_true rfl) d_m_total_185 (by omega) (by omega) (by omega) (by omega) (fun H locs hW hS => ?_)
      refine lv_if_eq (tgt := 195) hx hb d_m_total_188 (by decide) (fun h21 => ?_) (fun h21 => ?_)
      · replace hF := (if_pos h21).symm.trans hF
        refine lv_iconst (v := 0) hx hb d_m_total_195 (by decide) ?_
        exact hw_iret hx hb hr hlk (vp_nar_int _) hW hS (by omega) (by omega) d_m_total_196 hF
      · replace hF := (if_neg h21).symm.trans hF
        refine lv_iconst (v := 1) hx hb d_m_total_191 (by decide) ?_
        refine lv_goto (tgt := 196) hx hb d_m_total_192 (by decide) ?_
        exact hw_iret hx hb hr hlk (vp_nar_int _) hW hS (by omega) (by omega) d_m_total_196 hF
    replace hF := (if_neg h19).symm.trans hF
    by_cases h22 : w8 = 18
    · replace hF := (if_pos h22).symm.trans hF
      subst h22
      refine lv_tableIn (tgt := 197) hx hb d_m_total_43 (by decide) (by decide) rfl (by decide) ?_
      refine lv_aload_n hx hb d_m_total_197 rfl (lv_at hl 0 rfl) ?_
      obtain ⟨v23, z23, hc23, hF⟩ := f_bd_some hF
      refine hw_VR (k := 30) (i := 0) (nk := 1) (As := []) (rest := []) hx hb hml hown hts (c_m_isSuspicious_ok l hl0 hLi   _ _ _ hc23) st_m_97 (by decide) rfl (by omega) rfl rfl hK hZ hsz hS hW rfl hl.1 (Nat.le_of_ble_eq_true rfl) d_m_total_198 (by omega) (by omega) (by omega) (by omega) (fun H locs hW hS => ?_)
      refine lv_if_eq (tgt := 208) hx hb d_m_total_201 (by decide) (fun h24 => ?_) (fun h24 => ?_)
      · replace hF := (if_pos h24).symm.trans hF
        refine lv_iconst (v := 0) hx hb d_m_total_208 (by decide) ?_
        exact hw_iret hx hb hr hlk (vp_nar_int _) hW hS (by omega) (by omega) d_m_total_209 hF
      · replace hF := (if_neg h24).symm.trans hF
        refine lv_iconst (v := 1) hx hb d_m_total_204 (by decide) ?_
        refine lv_goto (tgt := 209) hx hb d_m_total_205 (by decide) ?_
        exact hw_iret hx hb hr hlk (vp_nar_int _) hW hS (by omega) (by omega) d_m_total_209 hF
    replace hF := (if_neg h22).symm.trans hF
    by_cases h25 : w8 = 19
    · replace hF := (if_pos h25).symm.trans hF
      subst h25
      refine lv_tableIn (tgt := 210) hx hb d_m_total_43 (by decide) (by decide) rfl (by decide) ?_
      refine lv_aload_n hx hb d_m_total_210 rfl (lv_at hl 0 rfl) ?_
      refine hw_get (k := 30) (i := 0) (n := 1) (j := 19) (v := .int (f_gI z 30 0 19)) hx hb hts hown hK hW fl_m_88 rfl (by omega) rfl d_m_total_211 ?_
      exact hw_iret hx hb hr hlk (vp_nar_int _) hW hS (by omega) (by omega) d_m_total_214 hF
    replace hF := (if_neg h25).symm.trans hF
    refine f_swd (x := w8) (hi := 19) (tgt := 215) hx hb d_m_total_43 (by decide) (fun k hk => by rcases (show k = 0 ∨ k = 1 ∨ k = 2 ∨ k = 3 ∨ k = 4 ∨ k = 5 ∨ k = 6 ∨ k = 7 ∨ k = 8 ∨ k = 9 ∨ k = 10 ∨ k = 11 ∨ k = 12 ∨ k = 13 ∨ k = 14 ∨ k = 15 ∨ k = 16 ∨ k = 17 ∨ k = 18 ∨ k = 19 by omega) with rfl | rfl | rfl | rfl | rfl | rfl | rfl | rfl | rfl | rfl | rfl | rfl | rfl | rfl | rfl | rfl | rfl | rfl | rfl | rfl <;> first | exact Or.inr rfl | exact Or.inl h10 | exact Or.inl h11 | exact Or.inl h12 | exact Or.inl h13 | exact Or.inl h14 | exact Or.inl h15 | exact Or.inl h16 | exact Or.inl h17 | exact Or.inl h19 | exact Or.inl h22 | exact Or.inl h25) (by decide) ?_
    refine lv_aload_n hx hb d_m_total_215 rfl (lv_at hl 0 rfl) ?_
    refine hw_get (k := 30) (i := 0) (n := 1) (j := 18) (v := .int (f_gI z 30 0 18)) hx hb hts hown hK hW fl_m_85 rfl (by omega) rfl d_m_total_216 ?_
    exact hw_iret hx hb hr hlk (vp_nar_int _) hW hS (by omega) (by omega) d_m_total_219 hF
  have B16 : ∀  (x1 : Int32) (y1 : Int32) (z : fST), b_m_total_16  x1 y1 z = some (r, z') →  f_B p l e R s m args below meth c L Ar D b0 2 0 (f_E below args s L Ar D b0 0 (.inl (some (.int r))) z') 0 16 [(0, .ref (L 30 0)), (1, .int x1)] [.int y1, .ref (L 30 0)] z := by
    intro  x1 y1 z hF  H locs ls cells slots hW hS hl hc hs
    unfold b_m_total_16 at hF
    refine lv_iconst (v := 1) hx hb d_m_total_16 (by decide) ?_
    obtain ⟨v3, z3, hc3, hF⟩ := f_bd_some hF
    refine hw_VR (k := 30) (i := 0) (nk := 1) (As := [.int y1, .int 1]) (rest := []) hx hb hml hown hts (c_m_fails_ok l hl0 hLi y1 1  _ _ _ hc3) st_m_59 (by decide) rfl (by omega) rfl rfl hK hZ hsz hS hW rfl hl.1 (Nat.le_of_ble_eq_true rfl) d_m_total_17 (by omega) (by omega) (by omega) (by omega) (fun H locs hW hS => ?_)
    refine lv_if_eq (tgt := 25) hx hb d_m_total_20 (by decide) (fun h4 => ?_) (fun h4 => ?_)
    · replace hF := (if_pos h4).symm.trans hF
      refine lv_iload_n hx hb d_m_total_25 rfl (lv_at hl 1 rfl) ?_
      refine lv_if_le (tgt := 42) hx hb d_m_total_26 (by decide) (fun h5 => ?_) (fun h5 => ?_)
      · replace hF := (if_pos h5).symm.trans hF
        exact B42 x1 z3 hF _ _ _ _ _ hW hS (lv_sub hl [0, 1] rfl) (by omega) (by omega)
      · replace hF := (if_neg h5).symm.trans hF
        refine lv_iload_n hx hb d_m_total_29 rfl (lv_at hl 1 rfl) ?_
        refine lv_bipush (v := 10) hx hb d_m_total_30 (by decide) ?_
        refine lv_icmp_ge (tgt := 42) hx hb d_m_total_32 (by decide) (fun h6 => ?_) (fun h6 => ?_)
        · replace hF := (if_pos h6).symm.trans hF
          exact B42 x1 z3 hF _ _ _ _ _ hW hS (lv_sub hl [0, 1] rfl) (by omega) (by omega)
        · replace hF := (if_neg h6).symm.trans hF
          refine lv_aload_n hx hb d_m_total_35 rfl (lv_at hl 0 rfl) ?_
          refine hw_get (k := 30) (i := 0) (n := 1) (j := 20) (v := .ref (L 41 0)) hx hb hts hown hK hW fl_m_41 rfl (by omega) rfl d_m_total_36 ?_
          refine lv_iload_n hx hb d_m_total_39 rfl (lv_at hl 1 rfl) ?_
          obtain ⟨g7, hF⟩ := f_gd_some hF
          refine hw_iald (k := 41) (i := 0) (n := 1) hx hb hK hW (by decide) rfl (by omega) rfl g7 d_m_total_40 ?_
          exact hw_iret hx hb hr hlk (vp_nar_int _) hW hS (by omega) (by omega) d_m_total_41 hF
    · replace hF := (if_neg h4).symm.trans hF
      refine lv_iconst (v := 0) hx hb d_m_total_23 (by decide) ?_
      exact hw_iret hx hb hr hlk (vp_nar_int _) hW hS (by omega) (by omega) d_m_total_24 hF
  intro H locs ls cells slots hW hS hl hc hs
  have hl : lv_has ls 2 [(0, .ref (L 30 0)), (1, .int a1)] := hl
  unfold F_m_total at hF
  refine lv_aload_n hx hb d_m_total_0 rfl (lv_at hl 0 rfl) ?_
  refine lv_iload_n hx hb d_m_total_1 rfl (lv_at hl 1 rfl) ?_
  refine lv_iconst (v := 0) hx hb d_m_total_2 (by decide) ?_
  refine lv_bipush (v := 20) hx hb d_m_total_3 (by decide) ?_
  obtain ⟨v1, z1, hc1, hF⟩ := f_bd_some hF
  refine hw_SR (As := [.int a1, .int 0, .int 20]) (rest := [.ref (L 30 0)]) hx hb hml hown hts (c_m_within_ok l hl0 hLi a1 0 20  _ _ _ hc1) st_m_63 hK hZ hsz hS hW rfl hl.1 (Nat.le_of_ble_eq_true rfl) d_m_total_5 (by omega) (by omega) (by omega) (by omega) (fun H locs hW hS => ?_)
  refine lv_if_ne (tgt := 15) hx hb d_m_total_8 (by decide) (fun h2 => ?_) (fun h2 => ?_)
  · replace hF := (if_neg h2).symm.trans hF
    refine lv_iconst (v := 0) hx hb d_m_total_15 (by decide) ?_
    exact B16 a1 0 z1 hF _ _ _ _ _ hW hS (lv_sub hl [0, 1] rfl) (by omega) (by omega)
  · replace hF := (if_pos h2).symm.trans hF
    refine lv_iconst (v := 1) hx hb d_m_total_11 (by decide) ?_
    refine lv_goto (tgt := 16) hx hb d_m_total_12 (by decide) ?_
    exact B16 a1 1 z1 hF _ _ _ _ _ hW hS (lv_sub hl [0, 1] rfl) (by omega) (by omega)
