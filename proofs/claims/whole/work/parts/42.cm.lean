/-! contracts: the method does what its pure function says -/
set_option maxRecDepth 100000 in
set_option maxHeartbeats 4000000 in
theorem c_m_against_ok (l : Launch) (hl0 : l.stackTraces = false) {L : Nat → Nat → Nat} {Ar : Nat → ClassId} {D : va_G} {b0 : Nat} (hLi : f_L L b0) (a1 : Int32)  (z : fST) (r : Int32) (z' : fST) (hF : F_m_against a1 z = some (r, z')) : f_C l y_m_against wt 2 0 L Ar D b0 [.ref (L 30 0), .int a1] z (.inl (some (.int r))) z' := by
  refine f_ofW (cc := c_m_against) (maxL := 9) (ret := (some FieldType.int)) (by decide) w_m_against (Nat.le_of_ble_eq_true rfl) ?_
  intro p e s m args below meth c R hRf hRl hRc hRs hx hb hr hlk hml hno hts hown hK hZ hsz
  have B410 : ∀  (x7 : Int32) (z : fST), b_m_against_410  x7 z = some (r, z') →  f_B p l e R s m args below meth c L Ar D b0 9 0 (f_E below args s L Ar D b0 0 (.inl (some (.int r))) z') 0 410 [(7, .int x7)] [] z := by
    intro  x7 z hF  H locs ls cells slots hW hS hl hc hs
    unfold b_m_against_410 at hF
    refine lv_iload hx hb d_m_against_410 (lv_at hl 0 rfl) ?_
    refine lv_if_eq (tgt := 420) hx hb d_m_against_412 (by decide) (fun h47 => ?_) (fun h47 => ?_)
    · replace hF := (if_pos h47).symm.trans hF
      refine lv_iconst (v := 0) hx hb d_m_against_420 (by decide) ?_
      exact hw_iret hx hb hr hlk (vp_nar_int _) hW hS (by omega) (by omega) d_m_against_421 hF
    · replace hF := (if_neg h47).symm.trans hF
      refine lv_bipush (v := 9) hx hb d_m_against_415 (by decide) ?_
      refine lv_goto (tgt := 421) hx hb d_m_against_417 (by decide) ?_
      exact hw_iret hx hb hr hlk (vp_nar_int _) hW hS (by omega) (by omega) d_m_against_421 hF
  have B402 : ∀ (k362 : Int32 × Int32 × Int32 × fST → Option (Int32 × fST)) (K362 : ∀ (x1 : Int32) (x7 : Int32) (x8 : Int32) (z : fST), k362 (x1, x7, x8, z) = some (r, z') →  f_B p l e R s m args below meth c L Ar D b0 9 0 (f_E below args s L Ar D b0 0 (.inl (some (.int r))) z') 0 362 [(0, .ref (L 30 0)), (1, .int x1), (7, .int x7), (8, .int x8)] [] z) (x1 : Int32) (x8 : Int32) (y0 : Int32) (z : fST), b_m_against_402 k362 x1 x8 y0 z = some (r, z') →  f_B p l e R s m args below meth c L Ar D b0 9 0 (f_E below args s L Ar D b0 0 (.inl (some (.int r))) z') 0 402 [(0, .ref (L 30 0)), (1, .int x1), (8, .int x8)] [.int y0] z := by
    intro k362 K362 x1 x8 y0 z hF  H locs ls cells slots hW hS hl hc hs
    unfold b_m_against_402 at hF
    refine lv_istore (lv' := [(7, .int y0), (0, .ref (L 30 0)), (1, .int x1), (8, .int x8)]) hx hb d_m_against_402 hl (by decide) rfl (fun ls hl => ?_)
    refine lv_iinc (k := 3) (x := x8) (v := x8 + 1) (lv' := [(8, .int (x8 + 1)), (7, .int y0), (0, .ref (L 30 0)), (1, .int x1)]) hx hb d_m_against_404 hl rfl rfl (by decide) rfl (fun ls hl => ?_)
    refine lv_goto (tgt := 362) hx hb d_m_against_407 (by decide) ?_
    exact K362 x1 y0 (x8 + 1) z hF _ _ _ _ _ hW hS (lv_sub hl [2, 3, 1, 0] rfl) (by omega) (by omega)
  have B362 : ∀  (n : Nat) (x1 : Int32) (x7 : Int32) (x8 : Int32) (z : fST), f_it (b_m_against_362 ) n (x1, x7, x8, z) = some (r, z') →  f_B p l e R s m args below meth c L Ar D b0 9 0 (f_E below args s L Ar D b0 0 (.inl (some (.int r))) z') 0 362 [(0, .ref (L 30 0)), (1, .int x1), (7, .int x7), (8, .int x8)] [] z := by
    intro  n
    induction n with
    | zero => intro x1 x7 x8 z hF; cases hF
    | succ n ih =>
    intro x1 x7 x8 z hF  H locs ls cells slots hW hS hl hc hs
    replace hF := f_it_s hF
    have K362 : ∀ (x1 : Int32) (x7 : Int32) (x8 : Int32) (z : fST), f_it (b_m_against_362 ) n (x1, x7, x8, z) = some (r, z') →  f_B p l e R s m args below meth c L Ar D b0 9 0 (f_E below args s L Ar D b0 0 (.inl (some (.int r))) z') 0 362 [(0, .ref (L 30 0)), (1, .int x1), (7, .int x7), (8, .int x8)] [] z := fun x1 x7 x8 z hF => ih x1 x7 x8 z hF
    generalize f_it (b_m_against_362 ) n = k362 at hF K362
    unfold b_m_against_362 at hF
    dsimp only at hF
    refine lv_iload hx hb d_m_against_362 (lv_at hl 3 rfl) ?_
    refine lv_bipush (v := 24) hx hb d_m_against_364 (by decide) ?_
    refine lv_icmp_ge (tgt := 410) hx hb d_m_against_366 (by decide) (fun h42 => ?_) (fun h42 => ?_)
    · replace hF := (if_pos h42).symm.trans hF
      exact B410 x7 z hF _ _ _ _ _ hW hS (lv_sub hl [2] rfl) (by omega) (by omega)
    · replace hF := (if_neg h42).symm.trans hF
      refine lv_iload hx hb d_m_against_369 (lv_at hl 2 rfl) ?_
      refine lv_if_eq (tgt := 410) hx hb d_m_against_371 (by decide) (fun h43 => ?_) (fun h43 => ?_)
      · replace hF := (if_pos h43).symm.trans hF
        exact B410 x7 z hF _ _ _ _ _ hW hS (lv_sub hl [2] rfl) (by omega) (by omega)
      · replace hF := (if_neg h43).symm.trans hF
        refine lv_aload_n hx hb d_m_against_374 rfl (lv_at hl 0 rfl) ?_
        refine hw_get (k := 30) (i := 0) (n := 1) (j := 14) (v := .ref (L 40 0)) hx hb hts hown hK hW fl_m_38 rfl (by omega) rfl d_m_against_375 ?_
        refine lv_iload hx hb d_m_against_378 (lv_at hl 3 rfl) ?_
        obtain ⟨g44, hF⟩ := f_gd_some hF
        refine hw_iald (k := 40) (i := 0) (n := 1) hx hb hK hW (by decide) rfl (by omega) rfl g44 d_m_against_380 ?_
        refine lv_aload_n hx hb d_m_against_381 rfl (lv_at hl 0 rfl) ?_
        refine lv_iload_n hx hb d_m_against_382 rfl (lv_at hl 1 rfl) ?_
        refine lv_bipush (v := 12) hx hb d_m_against_383 (by decide) ?_
        refine lv_iload hx hb d_m_against_385 (lv_at hl 3 rfl) ?_
        refine lv_bipush (v := 8) hx hb d_m_against_387 (by decide) ?_
        refine lv_irem hx hb d_m_against_389 (by decide) ?_
        refine lv_iadd hx hb d_m_against_390 ?_
        obtain ⟨v45, z45, hc45, hF⟩ := f_bd_some hF
        refine hw_VR (k := 30) (i := 0) (nk := 1) (As := [.int x1, .int (12 + (x8 - x8 / 8 * 8))]) (rest := [.int (f_gI z 40 0 (f_ix x8))]) hx hb hml hown hts (c_m_get_ok l hl0 hLi x1 (12 + (x8 - x8 / 8 * 8))  _ _ _ hc45) st_m_48 (by decide) rfl (by omega) rfl rfl hK hZ hsz hS hW rfl hl.1 (Nat.le_of_ble_eq_true rfl) d_m_against_391 (by omega) (by omega) (by omega) (by omega) (fun H locs hW hS => ?_)
        refine lv_icmp_ne (tgt := 401) hx hb d_m_against_394 (by decide) (fun h46 => ?_) (fun h46 => ?_)
        · replace hF := (if_neg h46).symm.trans hF
          refine lv_iconst (v := 0) hx hb d_m_against_401 (by decide) ?_
          exact B402 k362 K362 x1 x8 0 z45 hF _ _ _ _ _ hW hS (lv_sub hl [0, 1, 3] rfl) (by omega) (by omega)
        · replace hF := (if_pos h46).symm.trans hF
          refine lv_iconst (v := 1) hx hb d_m_against_397 (by decide) ?_
          refine lv_goto (tgt := 402) hx hb d_m_against_398 (by decide) ?_
          exact B402 k362 K362 x1 x8 1 z45 hF _ _ _ _ _ hW hS (lv_sub hl [0, 1, 3] rfl) (by omega) (by omega)
  have B357 : ∀  (x1 : Int32) (y0 : Int32) (z : fST), b_m_against_357  x1 y0 z = some (r, z') →  f_B p l e R s m args below meth c L Ar D b0 9 0 (f_E below args s L Ar D b0 0 (.inl (some (.int r))) z') 0 357 [(0, .ref (L 30 0)), (1, .int x1)] [.int y0] z := by
    intro  x1 y0 z hF  H locs ls cells slots hW hS hl hc hs
    unfold b_m_against_357 at hF
    refine lv_istore (lv' := [(7, .int y0), (0, .ref (L 30 0)), (1, .int x1)]) hx hb d_m_against_357 hl (by decide) rfl (fun ls hl => ?_)
    refine lv_iconst (v := 0) hx hb d_m_against_359 (by decide) ?_
    refine lv_istore (lv' := [(8, .int 0), (7, .int y0), (0, .ref (L 30 0)), (1, .int x1)]) hx hb d_m_against_360 hl (by decide) rfl (fun ls hl => ?_)
    exact B362 2000 x1 y0 0 z hF _ _ _ _ _ hW hS (lv_sub hl [2, 3, 1, 0] rfl) (by omega) (by omega)
  have B298 : ∀ (k248 : Int32 × Int32 × Int32 × Int32 × fST → Option (Int32 × fST)) (K248 : ∀ (x1 : Int32) (x5 : Int32) (x6 : Int32) (x7 : Int32) (z : fST), k248 (x1, x5, x6, x7, z) = some (r, z') →  f_B p l e R s m args below meth c L Ar D b0 9 0 (f_E below args s L Ar D b0 0 (.inl (some (.int r))) z') 0 248 [(0, .ref (L 30 0)), (1, .int x1), (5, .int x5), (6, .int x6), (7, .int x7)] [] z) (x1 : Int32) (x5 : Int32) (x7 : Int32) (y0 : Int32) (y1 : Int32) (z : fST), b_m_against_298 k248 x1 x5 x7 y0 y1 z = some (r, z') →  f_B p l e R s m args below meth c L Ar D b0 9 0 (f_E below args s L Ar D b0 0 (.inl (some (.int r))) z') 0 298 [(0, .ref (L 30 0)), (1, .int x1), (5, .int x5), (7, .int x7)] [.int y1, .int y0] z := by
    intro k248 K248 x1 x5 x7 y0 y1 z hF  H locs ls cells slots hW hS hl hc hs
    unfold b_m_against_298 at hF
    refine lv_iadd hx hb d_m_against_298 ?_
    refine lv_istore (lv' := [(6, .int (y0 + y1)), (0, .ref (L 30 0)), (1, .int x1), (5, .int x5), (7, .int x7)]) hx hb d_m_against_299 hl (by decide) rfl (fun ls hl => ?_)
    refine lv_iinc (k := 4) (x := x7) (v := x7 + 1) (lv' := [(7, .int (x7 + 1)), (6, .int (y0 + y1)), (0, .ref (L 30 0)), (1, .int x1), (5, .int x5)]) hx hb d_m_against_301 hl rfl rfl (by decide) rfl (fun ls hl => ?_)
    refine lv_goto (tgt := 248) hx hb d_m_against_304 (by decide) ?_
    exact K248 x1 x5 (y0 + y1) (x7 + 1) z hF _ _ _ _ _ hW hS (lv_sub hl [2, 3, 4, 1, 0] rfl) (by omega) (by omega)
  have B297 : ∀ (k248 : Int32 × Int32 × Int32 × Int32 × fST → Option (Int32 × fST)) (K248 : ∀ (x1 : Int32) (x5 : Int32) (x6 : Int32) (x7 : Int32) (z : fST), k248 (x1, x5, x6, x7, z) = some (r, z') →  f_B p l e R s m args below meth c L Ar D b0 9 0 (f_E below args s L Ar D b0 0 (.inl (some (.int r))) z') 0 248 [(0, .ref (L 30 0)), (1, .int x1), (5, .int x5), (6, .int x6), (7, .int x7)] [] z) (x1 : Int32) (x5 : Int32) (x7 : Int32) (y0 : Int32) (z : fST), b_m_against_297 k248 x1 x5 x7 y0 z = some (r, z') →  f_B p l e R s m args below meth c L Ar D b0 9 0 (f_E below args s L Ar D b0 0 (.inl (some (.int r))) z') 0 297 [(0, .ref (L 30 0)), (1, .int x1), (5, .int x5), (7, .int x7)] [.int y0] z := by
    intro k248 K248 x1 x5 x7 y0 z hF  H locs ls cells slots hW hS hl hc hs
    unfold b_m_against_297 at hF
    refine lv_iconst (v := 0) hx hb d_m_against_297 (by decide) ?_
    exact B298 k248 K248 x1 x5 x7 y0 0 z hF _ _ _ _ _ hW hS (lv_sub hl [0, 1, 2, 3] rfl) (by omega) (by omega)
  have B248 : ∀  (n : Nat) (x1 : Int32) (x5 : Int32) (x6 : Int32) (x7 : Int32) (z : fST), f_it (b_m_against_248 ) n (x1, x5, x6, x7, z) = some (r, z') →  f_B p l e R s m args below meth c L Ar D b0 9 0 (f_E below args s L Ar D b0 0 (.inl (some (.int r))) z') 0 248 [(0, .ref (L 30 0)), (1, .int x1), (5, .int x5), (6, .int x6), (7, .int x7)] [] z := by
    intro  n
    induction n with
    | zero => intro x1 x5 x6 x7 z hF; cases hF
    | succ n ih =>
    intro x1 x5 x6 x7 z hF  H locs ls cells slots hW hS hl hc hs
    replace hF := f_it_s hF
    have K248 : ∀ (x1 : Int32) (x5 : Int32) (x6 : Int32) (x7 : Int32) (z : fST), f_it (b_m_against_248 ) n (x1, x5, x6, x7, z) = some (r, z') →  f_B p l e R s m args below meth c L Ar D b0 9 0 (f_E below args s L Ar D b0 0 (.inl (some (.int r))) z') 0 248 [(0, .ref (L 30 0)), (1, .int x1), (5, .int x5), (6, .int x6), (7, .int x7)] [] z := fun x1 x5 x6 x7 z hF => ih x1 x5 x6 x7 z hF
    generalize f_it (b_m_against_248 ) n = k248 at hF K248
    unfold b_m_against_248 at hF
    dsimp only at hF
    refine lv_iload hx hb d_m_against_248 (lv_at hl 4 rfl) ?_
    refine lv_aload_n hx hb d_m_against_250 rfl (lv_at hl 0 rfl) ?_
    refine hw_get (k := 30) (i := 0) (n := 1) (j := 4) (v := .int (f_gI z 30 0 4)) hx hb hts hown hK hW fl_m_52 rfl (by omega) rfl d_m_against_251 ?_
    refine lv_icmp_ge (tgt := 307) hx hb d_m_against_254 (by decide) (fun h30 => ?_) (fun h30 => ?_)
    · replace hF := (if_pos h30).symm.trans hF
      refine lv_iload hx hb d_m_against_307 (lv_at hl 3 rfl) ?_
      refine lv_aload_n hx hb d_m_against_309 rfl (lv_at hl 0 rfl) ?_
      refine hw_get (k := 30) (i := 0) (n := 1) (j := 7) (v := .ref (L 36 0)) hx hb hts hown hK hW fl_m_25 rfl (by omega) rfl d_m_against_310 ?_
      refine lv_iload hx hb d_m_against_313 (lv_at hl 2 rfl) ?_
      obtain ⟨g31, hF⟩ := f_gd_some hF
      refine hw_iald (k := 36) (i := 0) (n := 1) hx hb hK hW (by decide) rfl (by omega) rfl g31 d_m_against_315 ?_
      refine lv_icmp_lt (tgt := 322) hx hb d_m_against_316 (by decide) (fun h32 => ?_) (fun h32 => ?_)
      · replace hF := (if_pos h32).symm.trans hF
        refine lv_aload_n hx hb d_m_against_322 rfl (lv_at hl 0 rfl) ?_
        refine hw_get (k := 30) (i := 0) (n := 1) (j := 12) (v := .int (f_gI z 30 0 12)) hx hb hts hown hK hW fl_m_94 rfl (by omega) rfl d_m_against_323 ?_
        refine lv_bipush (v := 60) hx hb d_m_against_326 (by decide) ?_
        refine lv_icmp_ne (tgt := 334) hx hb d_m_against_328 (by decide) (fun h33 => ?_) (fun h33 => ?_)
        · replace hF := (if_neg h33).symm.trans hF
          refine lv_aload_n hx hb d_m_against_334 rfl (lv_at hl 0 rfl) ?_
          obtain ⟨v34, z34, hc34, hF⟩ := f_bd_some hF
          refine hw_VR (k := 30) (i := 0) (nk := 1) (As := []) (rest := []) hx hb hml hown hts (c_m_isSuspicious_ok l hl0 hLi   _ _ _ hc34) st_m_97 (by decide) rfl (by omega) rfl rfl hK hZ hsz hS hW rfl hl.1 (Nat.le_of_ble_eq_true rfl) d_m_against_335 (by omega) (by omega) (by omega) (by omega) (fun H locs hW hS => ?_)
          refine lv_if_eq (tgt := 344) hx hb d_m_against_338 (by decide) (fun h35 => ?_) (fun h35 => ?_)
          · replace hF := (if_pos h35).symm.trans hF
            refine lv_aload_n hx hb d_m_against_344 rfl (lv_at hl 0 rfl) ?_
            refine hw_get (k := 30) (i := 0) (n := 1) (j := 15) (v := .int (f_gI z34 30 0 15)) hx hb hts hown hK hW fl_m_101 rfl (by omega) rfl d_m_against_345 ?_
            refine lv_iconst (v := 3) hx hb d_m_against_348 (by decide) ?_
            refine lv_icmp_lt (tgt := 356) hx hb d_m_against_349 (by decide) (fun h36 => ?_) (fun h36 => ?_)
            · replace hF := (if_pos h36).symm.trans hF
              refine lv_iconst (v := 0) hx hb d_m_against_356 (by decide) ?_
              exact B357 x1 0 z34 hF _ _ _ _ _ hW hS (lv_sub hl [0, 1] rfl) (by omega) (by omega)
            · replace hF := (if_neg h36).symm.trans hF
              refine lv_iconst (v := 1) hx hb d_m_against_352 (by decide) ?_
              refine lv_goto (tgt := 357) hx hb d_m_against_353 (by decide) ?_
              exact B357 x1 1 z34 hF _ _ _ _ _ hW hS (lv_sub hl [0, 1] rfl) (by omega) (by omega)
          · replace hF := (if_neg h35).symm.trans hF
            refine lv_bipush (v := 8) hx hb d_m_against_341 (by decide) ?_
            exact hw_iret hx hb hr hlk (vp_nar_int _) hW hS (by omega) (by omega) d_m_against_343 hF
        · replace hF := (if_pos h33).symm.trans hF
          refine lv_bipush (v := 7) hx hb d_m_against_331 (by decide) ?_
          exact hw_iret hx hb hr hlk (vp_nar_int _) hW hS (by omega) (by omega) d_m_against_333 hF
      · replace hF := (if_neg h32).symm.trans hF
        refine lv_bipush (v := 6) hx hb d_m_against_319 (by decide) ?_
        exact hw_iret hx hb hr hlk (vp_nar_int _) hW hS (by omega) (by omega) d_m_against_321 hF
    · replace hF := (if_neg h30).symm.trans hF
      refine lv_iload hx hb d_m_against_257 (lv_at hl 3 rfl) ?_
      refine lv_aload_n hx hb d_m_against_259 rfl (lv_at hl 0 rfl) ?_
      refine lv_iload hx hb d_m_against_260 (lv_at hl 4 rfl) ?_
      refine lv_iconst (v := 3) hx hb d_m_against_262 (by decide) ?_
      obtain ⟨v37, z37, hc37, hF⟩ := f_bd_some hF
      refine hw_VR (k := 30) (i := 0) (nk := 1) (As := [.int x7, .int 3]) (rest := [.int x6]) hx hb hml hown hts (c_m_get_ok l hl0 hLi x7 3  _ _ _ hc37) st_m_48 (by decide) rfl (by omega) rfl rfl hK hZ hsz hS hW rfl hl.1 (Nat.le_of_ble_eq_true rfl) d_m_against_263 (by omega) (by omega) (by omega) (by omega) (fun H locs hW hS => ?_)
      refine lv_bipush (v := 10) hx hb d_m_against_266 (by decide) ?_
      refine lv_icmp_ne (tgt := 297) hx hb d_m_against_268 (by decide) (fun h38 => ?_) (fun h38 => ?_)
      · replace hF := (if_neg h38).symm.trans hF
        exact B297 k248 K248 x1 x5 x7 x6 z37 hF _ _ _ _ _ hW hS (lv_sub hl [0, 1, 2, 4] rfl) (by omega) (by omega)
      · replace hF := (if_pos h38).symm.trans hF
        refine lv_aload_n hx hb d_m_against_271 rfl (lv_at hl 0 rfl) ?_
        refine hw_get (k := 30) (i := 0) (n := 1) (j := 2) (v := .ref (L 33 0)) hx hb hts hown hK hW fl_m_16 rfl (by omega) rfl d_m_against_272 ?_
        refine lv_bipush (v := 6) hx hb d_m_against_275 (by decide) ?_
        refine lv_aload_n hx hb d_m_against_277 rfl (lv_at hl 0 rfl) ?_
        refine lv_iload hx hb d_m_against_278 (lv_at hl 4 rfl) ?_
        refine lv_iconst (v := 4) hx hb d_m_against_280 (by decide) ?_
        obtain ⟨v39, z39, hc39, hF⟩ := f_bd_some hF
        refine hw_VR (k := 30) (i := 0) (nk := 1) (As := [.int x7, .int 4]) (rest := [.int 6, .ref (L 33 0), .int x6]) hx hb hml hown hts (c_m_get_ok l hl0 hLi x7 4  _ _ _ hc39) st_m_48 (by decide) rfl (by omega) rfl rfl hK hZ hsz hS hW rfl hl.1 (Nat.le_of_ble_eq_true rfl) d_m_against_281 (by omega) (by omega) (by omega) (by omega) (fun H locs hW hS => ?_)
        refine lv_imul hx hb d_m_against_284 ?_
        refine lv_iconst (v := 2) hx hb d_m_against_285 (by decide) ?_
        refine lv_iadd hx hb d_m_against_286 ?_
        obtain ⟨g40, hF⟩ := f_gd_some hF
        refine hw_iald (k := 33) (i := 0) (n := 1) hx hb hK hW (by decide) rfl (by omega) rfl g40 d_m_against_287 ?_
        refine lv_iload hx hb d_m_against_288 (lv_at hl 2 rfl) ?_
        refine lv_icmp_ne (tgt := 297) hx hb d_m_against_290 (by decide) (fun h41 => ?_) (fun h41 => ?_)
        · replace hF := (if_neg h41).symm.trans hF
          exact B297 k248 K248 x1 x5 x7 x6 z39 hF _ _ _ _ _ hW hS (lv_sub hl [0, 1, 2, 4] rfl) (by omega) (by omega)
        · replace hF := (if_pos h41).symm.trans hF
          refine lv_iconst (v := 1) hx hb d_m_against_293 (by decide) ?_
          refine lv_goto (tgt := 298) hx hb d_m_against_294 (by decide) ?_
          exact B298 k248 K248 x1 x5 x7 x6 1 z39 hF _ _ _ _ _ hW hS (lv_sub hl [0, 1, 2, 4] rfl) (by omega) (by omega)
  have B189 : ∀ (k137 : Int32 × Int32 × Int32 × Int32 × Int32 × fST → Option (Int32 × fST)) (K137 : ∀ (x1 : Int32) (x2 : Int32) (x3 : Int32) (x4 : Int32) (x5 : Int32) (z : fST), k137 (x1, x2, x3, x4, x5, z) = some (r, z') →  f_B p l e R s m args below meth c L Ar D b0 9 0 (f_E below args s L Ar D b0 0 (.inl (some (.int r))) z') 0 137 [(0, .ref (L 30 0)), (1, .int x1), (2, .int x2), (3, .int x3), (4, .int x4), (5, .int x5)] [] z) (x1 : Int32) (x2 : Int32) (x3 : Int32) (x5 : Int32) (y0 : Int32) (y1 : Int32) (z : fST), b_m_against_189 k137 x1 x2 x3 x5 y0 y1 z = some (r, z') →  f_B p l e R s m args below meth c L Ar D b0 9 0 (f_E below args s L Ar D b0 0 (.inl (some (.int r))) z') 0 189 [(0, .ref (L 30 0)), (1, .int x1), (2, .int x2), (3, .int x3), (5, .int x5)] [.int y1, .int y0] z := by
    intro k137 K137 x1 x2 x3 x5 y0 y1 z hF  H locs ls cells slots hW hS hl hc hs
    unfold b_m_against_189 at hF
    refine lv_iadd hx hb d_m_against_189 ?_
    refine lv_istore (lv' := [(4, .int (y0 + y1)), (0, .ref (L 30 0)), (1, .int x1), (2, .int x2), (3, .int x3), (5, .int x5)]) hx hb d_m_against_190 hl (by decide) rfl (fun ls hl => ?_)
    refine lv_iinc (k := 5) (x := x5) (v := x5 + 1) (lv' := [(5, .int (x5 + 1)), (4, .int (y0 + y1)), (0, .ref (L 30 0)), (1, .int x1), (2, .int x2), (3, .int x3)]) hx hb d_m_against_192 hl rfl rfl (by decide) rfl (fun ls hl => ?_)
    refine lv_goto (tgt := 137) hx hb d_m_against_195 (by decide) ?_
    exact K137 x1 x2 x3 (y0 + y1) (x5 + 1) z hF _ _ _ _ _ hW hS (lv_sub hl [2, 3, 4, 5, 1, 0] rfl) (by omega) (by omega)
  have B137 : ∀  (n : Nat) (x1 : Int32) (x2 : Int32) (x3 : Int32) (x4 : Int32) (x5 : Int32) (z : fST), f_it (b_m_against_137 ) n (x1, x2, x3, x4, x5, z) = some (r, z') →  f_B p l e R s m args below meth c L Ar D b0 9 0 (f_E below args s L Ar D b0 0 (.inl (some (.int r))) z') 0 137 [(0, .ref (L 30 0)), (1, .int x1), (2, .int x2), (3, .int x3), (4, .int x4), (5, .int x5)] [] z := by
    intro  n
    induction n with
    | zero => intro x1 x2 x3 x4 x5 z hF; cases hF
    | succ n ih =>
    intro x1 x2 x3 x4 x5 z hF  H locs ls cells slots hW hS hl hc hs
    replace hF := f_it_s hF
    have K137 : ∀ (x1 : Int32) (x2 : Int32) (x3 : Int32) (x4 : Int32) (x5 : Int32) (z : fST), f_it (b_m_against_137 ) n (x1, x2, x3, x4, x5, z) = some (r, z') →  f_B p l e R s m args below meth c L Ar D b0 9 0 (f_E below args s L Ar D b0 0 (.inl (some (.int r))) z') 0 137 [(0, .ref (L 30 0)), (1, .int x1), (2, .int x2), (3, .int x3), (4, .int x4), (5, .int x5)] [] z := fun x1 x2 x3 x4 x5 z hF => ih x1 x2 x3 x4 x5 z hF
    generalize f_it (b_m_against_137 ) n = k137 at hF K137
    unfold b_m_against_137 at hF
    dsimp only at hF
    refine lv_iload hx hb d_m_against_137 (lv_at hl 5 rfl) ?_
    refine lv_aload_n hx hb d_m_against_139 rfl (lv_at hl 0 rfl) ?_
    refine lv_iload_n hx hb d_m_against_140 rfl (lv_at hl 1 rfl) ?_
    refine lv_bipush (v := 8) hx hb d_m_against_141 (by decide) ?_
    obtain ⟨v19, z19, hc19, hF⟩ := f_bd_some hF
    refine hw_VR (k := 30) (i := 0) (nk := 1) (As := [.int x1, .int 8]) (rest := [.int x5]) hx hb hml hown hts (c_m_get_ok l hl0 hLi x1 8  _ _ _ hc19) st_m_48 (by decide) rfl (by omega) rfl rfl hK hZ hsz hS hW rfl hl.1 (Nat.le_of_ble_eq_true rfl) d_m_against_143 (by omega) (by omega) (by omega) (by omega) (fun H locs hW hS => ?_)
    refine lv_icmp_ge (tgt := 198) hx hb d_m_against_146 (by decide) (fun h20 => ?_) (fun h20 => ?_)
    · replace hF := (if_pos h20).symm.trans hF
      refine lv_aload_n hx hb d_m_against_198 rfl (lv_at hl 0 rfl) ?_
      refine lv_iload_n hx hb d_m_against_199 rfl (lv_at hl 1 rfl) ?_
      refine lv_bipush (v := 8) hx hb d_m_against_200 (by decide) ?_
      obtain ⟨v21, z21, hc21, hF⟩ := f_bd_some hF
      refine hw_VR (k := 30) (i := 0) (nk := 1) (As := [.int x1, .int 8]) (rest := []) hx hb hml hown hts (c_m_get_ok l hl0 hLi x1 8  _ _ _ hc21) st_m_48 (by decide) rfl (by omega) rfl rfl hK hZ hsz hS hW rfl hl.1 (Nat.le_of_ble_eq_true rfl) d_m_against_202 (by omega) (by omega) (by omega) (by omega) (fun H locs hW hS => ?_)
      refine lv_bipush (v := 8) hx hb d_m_against_205 (by decide) ?_
      refine lv_icmp_lt (tgt := 221) hx hb d_m_against_207 (by decide) (fun h22 => ?_) (fun h22 => ?_)
      · replace hF := (if_pos h22).symm.trans hF
        refine lv_iconst (v := 5) hx hb d_m_against_221 (by decide) ?_
        exact hw_iret hx hb hr hlk (vp_nar_int _) hW hS (by omega) (by omega) d_m_against_222 hF
      · replace hF := (if_neg h22).symm.trans hF
        refine lv_iload hx hb d_m_against_210 (lv_at hl 4 rfl) ?_
        refine lv_aload_n hx hb d_m_against_212 rfl (lv_at hl 0 rfl) ?_
        refine hw_get (k := 30) (i := 0) (n := 1) (j := 1) (v := .ref (L 32 0)) hx hb hts hown hK hW fl_m_13 rfl (by omega) rfl d_m_against_213 ?_
        refine lv_iload_n hx hb d_m_against_216 rfl (lv_at hl 3 rfl) ?_
        obtain ⟨g23, hF⟩ := f_gd_some hF
        refine hw_iald (k := 32) (i := 0) (n := 1) hx hb hK hW (by decide) rfl (by omega) rfl g23 d_m_against_217 ?_
        refine lv_icmp_le (tgt := 223) hx hb d_m_against_218 (by decide) (fun h24 => ?_) (fun h24 => ?_)
        · replace hF := (if_pos h24).symm.trans hF
          refine lv_aload_n hx hb d_m_against_223 rfl (lv_at hl 0 rfl) ?_
          refine hw_get (k := 30) (i := 0) (n := 1) (j := 2) (v := .ref (L 33 0)) hx hb hts hown hK hW fl_m_16 rfl (by omega) rfl d_m_against_224 ?_
          refine lv_bipush (v := 6) hx hb d_m_against_227 (by decide) ?_
          refine lv_iload_n hx hb d_m_against_229 rfl (lv_at hl 2 rfl) ?_
          refine lv_imul hx hb d_m_against_230 ?_
          refine lv_iconst (v := 2) hx hb d_m_against_231 (by decide) ?_
          refine lv_iadd hx hb d_m_against_232 ?_
          obtain ⟨g25, hF⟩ := f_gd_some hF
          refine hw_iald (k := 33) (i := 0) (n := 1) hx hb hK hW (by decide) rfl (by omega) rfl g25 d_m_against_233 ?_
          refine lv_istore (lv' := [(5, .int (f_gI z21 33 0 (f_ix ((6 * x2) + 2)))), (0, .ref (L 30 0)), (1, .int x1), (2, .int x2), (3, .int x3), (4, .int x4)]) hx hb d_m_against_234 hl (by decide) rfl (fun ls hl => ?_)
          refine lv_aload_n hx hb d_m_against_236 rfl (lv_at hl 1 rfl) ?_
          refine hw_get (k := 30) (i := 0) (n := 1) (j := 6) (v := .ref (L 35 0)) hx hb hts hown hK hW fl_m_22 rfl (by omega) rfl d_m_against_237 ?_
          refine lv_iload hx hb d_m_against_240 (lv_at hl 0 rfl) ?_
          obtain ⟨g26, hF⟩ := f_gd_some hF
          refine hw_iald (k := 35) (i := 0) (n := 1) hx hb hK hW (by decide) rfl (by omega) rfl g26 d_m_against_242 ?_
          refine lv_istore (lv' := [(6, .int (f_gI z21 35 0 (f_ix (f_gI z21 33 0 (f_ix ((6 * x2) + 2)))))), (5, .int (f_gI z21 33 0 (f_ix ((6 * x2) + 2)))), (0, .ref (L 30 0)), (1, .int x1), (2, .int x2), (3, .int x3), (4, .int x4)]) hx hb d_m_against_243 hl (by decide) rfl (fun ls hl => ?_)
          refine lv_iconst (v := 0) hx hb d_m_against_245 (by decide) ?_
          refine lv_istore (lv' := [(7, .int 0), (6, .int (f_gI z21 35 0 (f_ix (f_gI z21 33 0 (f_ix ((6 * x2) + 2)))))), (5, .int (f_gI z21 33 0 (f_ix ((6 * x2) + 2)))), (0, .ref (L 30 0)), (1, .int x1), (2, .int x2), (3, .int x3), (4, .int x4)]) hx hb d_m_against_246 hl (by decide) rfl (fun ls hl => ?_)
          exact B248 2000 x1 (f_gI z21 33 0 (f_ix ((6 * x2) + 2))) (f_gI z21 35 0 (f_ix (f_gI z21 33 0 (f_ix ((6 * x2) + 2))))) 0 z21 hF _ _ _ _ _ hW hS (lv_sub hl [3, 4, 2, 1, 0] rfl) (by omega) (by omega)
        · replace hF := (if_neg h24).symm.trans hF
          refine lv_iconst (v := 5) hx hb d_m_against_221 (by decide) ?_
          exact hw_iret hx hb hr hlk (vp_nar_int _) hW hS (by omega) (by omega) d_m_against_222 hF
    · replace hF := (if_neg h20).symm.trans hF
      refine lv_aload_n hx hb d_m_against_149 rfl (lv_at hl 0 rfl) ?_
      refine lv_iload_n hx hb d_m_against_150 rfl (lv_at hl 1 rfl) ?_
      refine lv_bipush (v := 12) hx hb d_m_against_151 (by decide) ?_
      refine lv_iload hx hb d_m_against_153 (lv_at hl 5 rfl) ?_
      refine lv_iadd hx hb d_m_against_155 ?_
      obtain ⟨v27, z27, hc27, hF⟩ := f_bd_some hF
      refine hw_VR (k := 30) (i := 0) (nk := 1) (As := [.int x1, .int (12 + x5)]) (rest := []) hx hb hml hown hts (c_m_get_ok l hl0 hLi x1 (12 + x5)  _ _ _ hc27) st_m_48 (by decide) rfl (by omega) rfl rfl hK hZ hsz hS hW rfl hl.1 (Nat.le_of_ble_eq_true rfl) d_m_against_156 (by omega) (by omega) (by omega) (by omega) (fun H locs hW hS => ?_)
      refine lv_aload_n hx hb d_m_against_159 rfl (lv_at hl 0 rfl) ?_
      refine hw_get (k := 30) (i := 0) (n := 1) (j := 0) (v := .ref (L 31 0)) hx hb hts hown hK hW fl_m_7 rfl (by omega) rfl d_m_against_160 ?_
      refine lv_bipush (v := 8) hx hb d_m_against_163 (by decide) ?_
      refine lv_iload_n hx hb d_m_against_165 rfl (lv_at hl 3 rfl) ?_
      refine lv_imul hx hb d_m_against_166 ?_
      refine lv_iload hx hb d_m_against_167 (lv_at hl 5 rfl) ?_
      refine lv_iadd hx hb d_m_against_169 ?_
      obtain ⟨g28, hF⟩ := f_gd_some hF
      refine hw_iald (k := 31) (i := 0) (n := 1) hx hb hK hW (by decide) rfl (by omega) rfl g28 d_m_against_170 ?_
      refine lv_isub hx hb d_m_against_171 ?_
      refine lv_istore (lv' := [(6, .int (v27 - (f_gI z27 31 0 (f_ix ((8 * x3) + x5))))), (0, .ref (L 30 0)), (1, .int x1), (2, .int x2), (3, .int x3), (4, .int x4), (5, .int x5)]) hx hb d_m_against_172 hl (by decide) rfl (fun ls hl => ?_)
      refine lv_iload hx hb d_m_against_174 (lv_at hl 5 rfl) ?_
      refine lv_iload hx hb d_m_against_176 (lv_at hl 0 rfl) ?_
      refine lv_if_ge (tgt := 187) hx hb d_m_against_178 (by decide) (fun h29 => ?_) (fun h29 => ?_)
      · replace hF := (if_pos h29).symm.trans hF
        refine lv_iload hx hb d_m_against_187 (lv_at hl 0 rfl) ?_
        exact B189 k137 K137 x1 x2 x3 x5 x4 (v27 - (f_gI z27 31 0 (f_ix ((8 * x3) + x5)))) z27 hF _ _ _ _ _ hW hS (lv_sub hl [1, 2, 3, 4, 6] rfl) (by omega) (by omega)
      · replace hF := (if_neg h29).symm.trans hF
        refine lv_iload hx hb d_m_against_181 (lv_at hl 0 rfl) ?_
        refine lv_ineg hx hb d_m_against_183 ?_
        refine lv_goto (tgt := 189) hx hb d_m_against_184 (by decide) ?_
        exact B189 k137 K137 x1 x2 x3 x5 x4 (0 - (v27 - (f_gI z27 31 0 (f_ix ((8 * x3) + x5))))) z27 hF _ _ _ _ _ hW hS (lv_sub hl [1, 2, 3, 4, 6] rfl) (by omega) (by omega)
  have B14 : ∀  (n : Nat) (x1 : Int32) (x2 : Int32) (z : fST), f_it (b_m_against_14 ) n (x1, x2, z) = some (r, z') →  f_B p l e R s m args below meth c L Ar D b0 9 0 (f_E below args s L Ar D b0 0 (.inl (some (.int r))) z') 0 14 [(0, .ref (L 30 0)), (1, .int x1), (2, .int x2)] [] z := by
    intro  n
    induction n with
    | zero => intro x1 x2 z hF; cases hF
    | succ n ih =>
    intro x1 x2 z hF  H locs ls cells slots hW hS hl hc hs
    replace hF := f_it_s hF
    have K14 : ∀ (x1 : Int32) (x2 : Int32) (z : fST), f_it (b_m_against_14 ) n (x1, x2, z) = some (r, z') →  f_B p l e R s m args below meth c L Ar D b0 9 0 (f_E below args s L Ar D b0 0 (.inl (some (.int r))) z') 0 14 [(0, .ref (L 30 0)), (1, .int x1), (2, .int x2)] [] z := fun x1 x2 z hF => ih x1 x2 z hF
    generalize f_it (b_m_against_14 ) n = k14 at hF K14
    unfold b_m_against_14 at hF
    dsimp only at hF
    refine lv_iload_n hx hb d_m_against_14 rfl (lv_at hl 2 rfl) ?_
    refine lv_aload_n hx hb d_m_against_15 rfl (lv_at hl 0 rfl) ?_
    refine lv_iload_n hx hb d_m_against_16 rfl (lv_at hl 1 rfl) ?_
    refine lv_bipush (v := 7) hx hb d_m_against_17 (by decide) ?_
    obtain ⟨v3, z3, hc3, hF⟩ := f_bd_some hF
    refine hw_VR (k := 30) (i := 0) (nk := 1) (As := [.int x1, .int 7]) (rest := [.int x2]) hx hb hml hown hts (c_m_get_ok l hl0 hLi x1 7  _ _ _ hc3) st_m_48 (by decide) rfl (by omega) rfl rfl hK hZ hsz hS hW rfl hl.1 (Nat.le_of_ble_eq_true rfl) d_m_against_19 (by omega) (by omega) (by omega) (by omega) (fun H locs hW hS => ?_)
    refine lv_icmp_ge (tgt := 52) hx hb d_m_against_22 (by decide) (fun h4 => ?_) (fun h4 => ?_)
    · replace hF := (if_pos h4).symm.trans hF
      refine lv_aload_n hx hb d_m_against_52 rfl (lv_at hl 0 rfl) ?_
      refine lv_aload_n hx hb d_m_against_53 rfl (lv_at hl 0 rfl) ?_
      refine lv_iload_n hx hb d_m_against_54 rfl (lv_at hl 1 rfl) ?_
      refine lv_bipush (v := 9) hx hb d_m_against_55 (by decide) ?_
      obtain ⟨v5, z5, hc5, hF⟩ := f_bd_some hF
      refine hw_VR (k := 30) (i := 0) (nk := 1) (As := [.int x1, .int 9]) (rest := [.ref (L 30 0)]) hx hb hml hown hts (c_m_get_ok l hl0 hLi x1 9  _ _ _ hc5) st_m_48 (by decide) rfl (by omega) rfl rfl hK hZ hsz hS hW rfl hl.1 (Nat.le_of_ble_eq_true rfl) d_m_against_57 (by omega) (by omega) (by omega) (by omega) (fun H locs hW hS => ?_)
      obtain ⟨v6, z6, hc6, hF⟩ := f_bd_some hF
      refine hw_VR (k := 30) (i := 0) (nk := 1) (As := [.int v5]) (rest := []) hx hb hml hown hts (c_m_kindOf_ok l hl0 hLi v5  _ _ _ hc6) st_m_68 (by decide) rfl (by omega) rfl rfl hK hZ hsz hS hW rfl hl.1 (Nat.le_of_ble_eq_true rfl) d_m_against_60 (by omega) (by omega) (by omega) (by omega) (fun H locs hW hS => ?_)
      refine lv_istore_n (lv' := [(2, .int v6), (0, .ref (L 30 0)), (1, .int x1)]) hx hb d_m_against_63 rfl hl (by decide) rfl (fun ls hl => ?_)
      refine lv_iload_n hx hb d_m_against_64 rfl (lv_at hl 0 rfl) ?_
      refine lv_iconst (v := (-1)) hx hb d_m_against_65 (by decide) ?_
      refine lv_icmp_ne (tgt := 71) hx hb d_m_against_66 (by decide) (fun h7 => ?_) (fun h7 => ?_)
      · replace hF := (if_neg h7).symm.trans hF
        refine lv_aload_n hx hb d_m_against_71 rfl (lv_at hl 1 rfl) ?_
        refine lv_iload_n hx hb d_m_against_72 rfl (lv_at hl 2 rfl) ?_
        refine lv_bipush (v := 6) hx hb d_m_against_73 (by decide) ?_
        obtain ⟨v8, z8, hc8, hF⟩ := f_bd_some hF
        refine hw_VR (k := 30) (i := 0) (nk := 1) (As := [.int x1, .int 6]) (rest := []) hx hb hml hown hts (c_m_get_ok l hl0 hLi x1 6  _ _ _ hc8) st_m_48 (by decide) rfl (by omega) rfl rfl hK hZ hsz hS hW rfl hl.1 (Nat.le_of_ble_eq_true rfl) d_m_against_75 (by omega) (by omega) (by omega) (by omega) (fun H locs hW hS => ?_)
        refine lv_iconst (v := (-1)) hx hb d_m_against_78 (by decide) ?_
        refine lv_icmp_eq (tgt := 117) hx hb d_m_against_79 (by decide) (fun h9 => ?_) (fun h9 => ?_)
        · replace hF := (if_pos h9).symm.trans hF
          refine lv_iconst (v := 4) hx hb d_m_against_117 (by decide) ?_
          exact hw_iret hx hb hr hlk (vp_nar_int _) hW hS (by omega) (by omega) d_m_against_118 hF
        · replace hF := (if_neg h9).symm.trans hF
          refine lv_aload_n hx hb d_m_against_82 rfl (lv_at hl 1 rfl) ?_
          refine lv_iload_n hx hb d_m_against_83 rfl (lv_at hl 2 rfl) ?_
          refine lv_bipush (v := 6) hx hb d_m_against_84 (by decide) ?_
          obtain ⟨v10, z10, hc10, hF⟩ := f_bd_some hF
          refine hw_VR (k := 30) (i := 0) (nk := 1) (As := [.int x1, .int 6]) (rest := []) hx hb hml hown hts (c_m_get_ok l hl0 hLi x1 6  _ _ _ hc10) st_m_48 (by decide) rfl (by omega) rfl rfl hK hZ hsz hS hW rfl hl.1 (Nat.le_of_ble_eq_true rfl) d_m_against_86 (by omega) (by omega) (by omega) (by omega) (fun H locs hW hS => ?_)
          refine lv_aload_n hx hb d_m_against_89 rfl (lv_at hl 1 rfl) ?_
          refine hw_get (k := 30) (i := 0) (n := 1) (j := 2) (v := .ref (L 33 0)) hx hb hts hown hK hW fl_m_16 rfl (by omega) rfl d_m_against_90 ?_
          refine lv_bipush (v := 6) hx hb d_m_against_93 (by decide) ?_
          refine lv_iload_n hx hb d_m_against_95 rfl (lv_at hl 0 rfl) ?_
          refine lv_imul hx hb d_m_against_96 ?_
          refine lv_iconst (v := 3) hx hb d_m_against_97 (by decide) ?_
          refine lv_iadd hx hb d_m_against_98 ?_
          obtain ⟨g11, hF⟩ := f_gd_some hF
          refine hw_iald (k := 33) (i := 0) (n := 1) hx hb hK hW (by decide) rfl (by omega) rfl g11 d_m_against_99 ?_
          refine lv_aload_n hx hb d_m_against_100 rfl (lv_at hl 1 rfl) ?_
          refine hw_get (k := 30) (i := 0) (n := 1) (j := 2) (v := .ref (L 33 0)) hx hb hts hown hK hW fl_m_16 rfl (by omega) rfl d_m_against_101 ?_
          refine lv_bipush (v := 6) hx hb d_m_against_104 (by decide) ?_
          refine lv_iload_n hx hb d_m_against_106 rfl (lv_at hl 0 rfl) ?_
          refine lv_imul hx hb d_m_against_107 ?_
          refine lv_iconst (v := 4) hx hb d_m_against_108 (by decide) ?_
          refine lv_iadd hx hb d_m_against_109 ?_
          obtain ⟨g12, hF⟩ := f_gd_some hF
          refine hw_iald (k := 33) (i := 0) (n := 1) hx hb hK hW (by decide) rfl (by omega) rfl g12 d_m_against_110 ?_
          obtain ⟨v13, z13, hc13, hF⟩ := f_bd_some hF
          refine hw_SR (As := [.int v10, .int (f_gI z10 33 0 (f_ix ((6 * v6) + 3))), .int (f_gI z10 33 0 (f_ix ((6 * v6) + 4)))]) (rest := []) hx hb hml hown hts (c_m_within_ok l hl0 hLi v10 (f_gI z10 33 0 (f_ix ((6 * v6) + 3))) (f_gI z10 33 0 (f_ix ((6 * v6) + 4)))  _ _ _ hc13) st_m_63 hK hZ hsz hS hW rfl hl.1 (Nat.le_of_ble_eq_true rfl) d_m_against_111 (by omega) (by omega) (by omega) (by omega) (fun H locs hW hS => ?_)
          refine lv_if_ne (tgt := 119) hx hb d_m_against_114 (by decide) (fun h14 => ?_) (fun h14 => ?_)
          · replace hF := (if_neg h14).symm.trans hF
            refine lv_aload_n hx hb d_m_against_119 rfl (lv_at hl 1 rfl) ?_
            refine hw_get (k := 30) (i := 0) (n := 1) (j := 2) (v := .ref (L 33 0)) hx hb hts hown hK hW fl_m_16 rfl (by omega) rfl d_m_against_120 ?_
            refine lv_bipush (v := 6) hx hb d_m_against_123 (by decide) ?_
            refine lv_iload_n hx hb d_m_against_125 rfl (lv_at hl 0 rfl) ?_
            refine lv_imul hx hb d_m_against_126 ?_
            refine lv_iconst (v := 5) hx hb d_m_against_127 (by decide) ?_
            refine lv_iadd hx hb d_m_against_128 ?_
            obtain ⟨g15, hF⟩ := f_gd_some hF
            refine hw_iald (k := 33) (i := 0) (n := 1) hx hb hK hW (by decide) rfl (by omega) rfl g15 d_m_against_129 ?_
            refine lv_istore_n (lv' := [(3, .int (f_gI z13 33 0 (f_ix ((6 * v6) + 5)))), (2, .int v6), (0, .ref (L 30 0)), (1, .int x1)]) hx hb d_m_against_130 rfl hl (by decide) rfl (fun ls hl => ?_)
            refine lv_iconst (v := 0) hx hb d_m_against_131 (by decide) ?_
            refine lv_istore (lv' := [(4, .int 0), (3, .int (f_gI z13 33 0 (f_ix ((6 * v6) + 5)))), (2, .int v6), (0, .ref (L 30 0)), (1, .int x1)]) hx hb d_m_against_132 hl (by decide) rfl (fun ls hl => ?_)
            refine lv_iconst (v := 0) hx hb d_m_against_134 (by decide) ?_
            refine lv_istore (lv' := [(5, .int 0), (4, .int 0), (3, .int (f_gI z13 33 0 (f_ix ((6 * v6) + 5)))), (2, .int v6), (0, .ref (L 30 0)), (1, .int x1)]) hx hb d_m_against_135 hl (by decide) rfl (fun ls hl => ?_)
            exact B137 2000 x1 v6 (f_gI z13 33 0 (f_ix ((6 * v6) + 5))) 0 0 z13 hF _ _ _ _ _ hW hS (lv_sub hl [4, 5, 3, 2, 1, 0] rfl) (by omega) (by omega)
          · replace hF := (if_pos h14).symm.trans hF
            refine lv_iconst (v := 4) hx hb d_m_against_117 (by decide) ?_
            exact hw_iret hx hb hr hlk (vp_nar_int _) hW hS (by omega) (by omega) d_m_against_118 hF
      · replace hF := (if_pos h7).symm.trans hF
        refine lv_iconst (v := 3) hx hb d_m_against_69 (by decide) ?_
        exact hw_iret hx hb hr hlk (vp_nar_int _) hW hS (by omega) (by omega) d_m_against_70 hF
    · replace hF := (if_neg h4).symm.trans hF
      refine lv_aload_n hx hb d_m_against_25 rfl (lv_at hl 0 rfl) ?_
      refine lv_iload_n hx hb d_m_against_26 rfl (lv_at hl 1 rfl) ?_
      refine lv_bipush (v := 9) hx hb d_m_against_27 (by decide) ?_
      refine lv_iload_n hx hb d_m_against_29 rfl (lv_at hl 2 rfl) ?_
      refine lv_iadd hx hb d_m_against_30 ?_
      obtain ⟨v16, z16, hc16, hF⟩ := f_bd_some hF
      refine hw_VR (k := 30) (i := 0) (nk := 1) (As := [.int x1, .int (9 + x2)]) (rest := []) hx hb hml hown hts (c_m_get_ok l hl0 hLi x1 (9 + x2)  _ _ _ hc16) st_m_48 (by decide) rfl (by omega) rfl rfl hK hZ hsz hS hW rfl hl.1 (Nat.le_of_ble_eq_true rfl) d_m_against_31 (by omega) (by omega) (by omega) (by omega) (fun H locs hW hS => ?_)
      refine lv_aload_n hx hb d_m_against_34 rfl (lv_at hl 0 rfl) ?_
      refine lv_iload_n hx hb d_m_against_35 rfl (lv_at hl 1 rfl) ?_
      refine lv_bipush (v := 9) hx hb d_m_against_36 (by decide) ?_
      obtain ⟨v17, z17, hc17, hF⟩ := f_bd_some hF
      refine hw_VR (k := 30) (i := 0) (nk := 1) (As := [.int x1, .int 9]) (rest := [.int v16]) hx hb hml hown hts (c_m_get_ok l hl0 hLi x1 9  _ _ _ hc17) st_m_48 (by decide) rfl (by omega) rfl rfl hK hZ hsz hS hW rfl hl.1 (Nat.le_of_ble_eq_true rfl) d_m_against_38 (by omega) (by omega) (by omega) (by omega) (fun H locs hW hS => ?_)
      refine lv_icmp_eq (tgt := 46) hx hb d_m_against_41 (by decide) (fun h18 => ?_) (fun h18 => ?_)
      · replace hF := (if_pos h18).symm.trans hF
        refine lv_iinc (k := 2) (x := x2) (v := x2 + 1) (lv' := [(2, .int (x2 + 1)), (0, .ref (L 30 0)), (1, .int x1)]) hx hb d_m_against_46 hl rfl rfl (by decide) rfl (fun ls hl => ?_)
        refine lv_goto (tgt := 14) hx hb d_m_against_49 (by decide) ?_
        exact K14 x1 (x2 + 1) z17 hF _ _ _ _ _ hW hS (lv_sub hl [1, 2, 0] rfl) (by omega) (by omega)
      · replace hF := (if_neg h18).symm.trans hF
        refine lv_iconst (v := 2) hx hb d_m_against_44 (by decide) ?_
        exact hw_iret hx hb hr hlk (vp_nar_int _) hW hS (by omega) (by omega) d_m_against_45 hF
  intro H locs ls cells slots hW hS hl hc hs
  have hl : lv_has ls 9 [(0, .ref (L 30 0)), (1, .int a1)] := hl
  unfold F_m_against at hF
  refine lv_aload_n hx hb d_m_against_0 rfl (lv_at hl 0 rfl) ?_
  refine lv_iload_n hx hb d_m_against_1 rfl (lv_at hl 1 rfl) ?_
  refine lv_bipush (v := 7) hx hb d_m_against_2 (by decide) ?_
  obtain ⟨v1, z1, hc1, hF⟩ := f_bd_some hF
  refine hw_VR (k := 30) (i := 0) (nk := 1) (As := [.int a1, .int 7]) (rest := []) hx hb hml hown hts (c_m_get_ok l hl0 hLi a1 7  _ _ _ hc1) st_m_48 (by decide) rfl (by omega) rfl rfl hK hZ hsz hS hW rfl hl.1 (Nat.le_of_ble_eq_true rfl) d_m_against_4 (by omega) (by omega) (by omega) (by omega) (fun H locs hW hS => ?_)
  refine lv_if_ne (tgt := 12) hx hb d_m_against_7 (by decide) (fun h2 => ?_) (fun h2 => ?_)
  · replace hF := (if_neg h2).symm.trans hF
    refine lv_iconst (v := 1) hx hb d_m_against_12 (by decide) ?_
    refine lv_istore_n (lv' := [(2, .int 1), (0, .ref (L 30 0)), (1, .int a1)]) hx hb d_m_against_13 rfl hl (by decide) rfl (fun ls hl => ?_)
    exact B14 2000 a1 1 z1 hF _ _ _ _ _ hW hS (lv_sub hl [1, 2, 0] rfl) (by omega) (by omega)
  · replace hF := (if_pos h2).symm.trans hF
    refine lv_iconst (v := 1) hx hb d_m_against_10 (by decide) ?_
    exact hw_iret hx hb hr hlk (vp_nar_int _) hW hS (by omega) (by omega) d_m_against_11 hF
set_option maxRecDepth 100000 in
set_option maxHeartbeats 4000000 in
theorem c_m_judge_ok (l : Launch) (hl0 : l.stackTraces = false) {L : Nat → Nat → Nat} {Ar : Nat → ClassId} {D : va_G} {b0 : Nat} (hLi : f_L L b0) (a1 : Int32)  (z : fST) (r : Unit) (z' : fST) (hF : F_m_judge a1 z = some (r, z')) : f_C l y_m_judge wt 3 0 L Ar D b0 [.ref (L 30 0), .int a1] z (.inl none) z' := by
  refine f_ofW (cc := c_m_judge) (maxL := 4) (ret := (Option.none : Option Jvm.ClassFile.FieldType)) (by decide) w_m_judge (Nat.le_of_ble_eq_true rfl) ?_
  intro p e s m args below meth c R hRf hRl hRc hRs hx hb hr hlk hml hno hts hown hK hZ hsz
  have B63 : ∀  (n : Nat) (x1 : Int32) (x3 : Int32) (z : fST), f_it (b_m_judge_63 ) n (x1, x3, z) = some (r, z') →  f_B p l e R s m args below meth c L Ar D b0 4 0 (f_E below args s L Ar D b0 0 (.inl none) z') 0 63 [(0, .ref (L 30 0)), (1, .int x1), (3, .int x3)] [] z := by
    intro  n
    induction n with
    | zero => intro x1 x3 z hF; cases hF
    | succ n ih =>
    intro x1 x3 z hF  H locs ls cells slots hW hS hl hc hs
    replace hF := f_it_s hF
    have K63 : ∀ (x1 : Int32) (x3 : Int32) (z : fST), f_it (b_m_judge_63 ) n (x1, x3, z) = some (r, z') →  f_B p l e R s m args below meth c L Ar D b0 4 0 (f_E below args s L Ar D b0 0 (.inl none) z') 0 63 [(0, .ref (L 30 0)), (1, .int x1), (3, .int x3)] [] z := fun x1 x3 z hF => ih x1 x3 z hF
    generalize f_it (b_m_judge_63 ) n = k63 at hF K63
    unfold b_m_judge_63 at hF
    dsimp only at hF
    refine lv_iload_n hx hb d_m_judge_63 rfl (lv_at hl 2 rfl) ?_
    refine lv_bipush (v := 8) hx hb d_m_judge_64 (by decide) ?_
    refine lv_icmp_ge (tgt := 100) hx hb d_m_judge_66 (by decide) (fun h12 => ?_) (fun h12 => ?_)
    · replace hF := (if_pos h12).symm.trans hF
      refine lv_aload_n hx hb d_m_judge_100 rfl (lv_at hl 0 rfl) ?_
      refine lv_dup hx hb d_m_judge_101 rfl ?_
      refine hw_get (k := 30) (i := 0) (n := 1) (j := 15) (v := .int (f_gI z 30 0 15)) hx hb hts hown hK hW fl_m_101 rfl (by omega) rfl d_m_judge_102 ?_
      refine lv_iconst (v := 1) hx hb d_m_judge_105 (by decide) ?_
      refine lv_iadd hx hb d_m_judge_106 ?_
      refine hw_put (k := 30) (i := 0) (n := 1) (j := 15) (v := (f_gI z 30 0 15) + 1) hx hb hts hown hK hLi hW hS fp_m_101 (vp_nar_int _) rfl rfl (by omega) d_m_judge_107 (fun H locs hW hS => ?_)
      exact hw_vret hx hb hr hlk hW hS (by omega) (by omega) d_m_judge_110 hF
    · replace hF := (if_neg h12).symm.trans hF
      refine lv_aload_n hx hb d_m_judge_69 rfl (lv_at hl 0 rfl) ?_
      refine hw_get (k := 30) (i := 0) (n := 1) (j := 14) (v := .ref (L 40 0)) hx hb hts hown hK hW fl_m_38 rfl (by omega) rfl d_m_judge_70 ?_
      refine lv_bipush (v := 8) hx hb d_m_judge_73 (by decide) ?_
      refine lv_aload_n hx hb d_m_judge_75 rfl (lv_at hl 0 rfl) ?_
      refine hw_get (k := 30) (i := 0) (n := 1) (j := 15) (v := .int (f_gI z 30 0 15)) hx hb hts hown hK hW fl_m_101 rfl (by omega) rfl d_m_judge_76 ?_
      refine lv_iconst (v := 3) hx hb d_m_judge_79 (by decide) ?_
      refine lv_irem hx hb d_m_judge_80 (by decide) ?_
      refine lv_imul hx hb d_m_judge_81 ?_
      refine lv_iload_n hx hb d_m_judge_82 rfl (lv_at hl 2 rfl) ?_
      refine lv_iadd hx hb d_m_judge_83 ?_
      refine lv_aload_n hx hb d_m_judge_84 rfl (lv_at hl 0 rfl) ?_
      refine lv_iload_n hx hb d_m_judge_85 rfl (lv_at hl 1 rfl) ?_
      refine lv_bipush (v := 12) hx hb d_m_judge_86 (by decide) ?_
      refine lv_iload_n hx hb d_m_judge_88 rfl (lv_at hl 2 rfl) ?_
      refine lv_iadd hx hb d_m_judge_89 ?_
      obtain ⟨v13, z13, hc13, hF⟩ := f_bd_some hF
      refine hw_VR (k := 30) (i := 0) (nk := 1) (As := [.int x1, .int (12 + x3)]) (rest := [.int ((8 * ((f_gI z 30 0 15) - (f_gI z 30 0 15) / 3 * 3)) + x3), .ref (L 40 0)]) hx hb hml hown hts (c_m_get_ok l hl0 hLi x1 (12 + x3)  _ _ _ hc13) st_m_48 (by decide) rfl (by omega) rfl rfl hK hZ hsz hS hW rfl hl.1 (Nat.le_of_ble_eq_true rfl) d_m_judge_90 (by omega) (by omega) (by omega) (by omega) (fun H locs hW hS => ?_)
      obtain ⟨g14, hF⟩ := f_gd_some hF
      refine hw_iast (k := 40) (i := 0) (n := 1) hx hb hK hLi hW hS (by decide) rfl (by omega) rfl g14 d_m_judge_93 (fun H locs hW hS => ?_)
      refine lv_iinc (k := 2) (x := x3) (v := x3 + 1) (lv' := [(3, .int (x3 + 1)), (0, .ref (L 30 0)), (1, .int x1)]) hx hb d_m_judge_94 hl rfl rfl (by decide) rfl (fun ls hl => ?_)
      refine lv_goto (tgt := 63) hx hb d_m_judge_97 (by decide) ?_
      exact K63 x1 (x3 + 1) (f_pI z13 40 0 (f_ix ((8 * ((f_gI z 30 0 15) - (f_gI z 30 0 15) / 3 * 3)) + x3)) v13) hF _ _ _ _ _ hW hS (lv_sub hl [1, 2, 0] rfl) (by omega) (by omega)
  intro H locs ls cells slots hW hS hl hc hs
  have hl : lv_has ls 4 [(0, .ref (L 30 0)), (1, .int a1)] := hl
  unfold F_m_judge at hF
  refine lv_aload_n hx hb d_m_judge_0 rfl (lv_at hl 0 rfl) ?_
  refine lv_iload_n hx hb d_m_judge_1 rfl (lv_at hl 1 rfl) ?_
  obtain ⟨v1, z1, hc1, hF⟩ := f_bd_some hF
  refine hw_VR (k := 30) (i := 0) (nk := 1) (As := [.int a1]) (rest := []) hx hb hml hown hts (c_m_against_ok l hl0 hLi a1  _ _ _ hc1) st_m_104 (by decide) rfl (by omega) rfl rfl hK hZ hsz hS hW rfl hl.1 (Nat.le_of_ble_eq_true rfl) d_m_judge_2 (by omega) (by omega) (by omega) (by omega) (fun H locs hW hS => ?_)
  refine lv_istore_n (lv' := [(2, .int v1), (0, .ref (L 30 0)), (1, .int a1)]) hx hb d_m_judge_5 rfl hl (by decide) rfl (fun ls hl => ?_)
  refine lv_iload_n hx hb d_m_judge_6 rfl (lv_at hl 0 rfl) ?_
  refine lv_if_le (tgt := 28) hx hb d_m_judge_7 (by decide) (fun h2 => ?_) (fun h2 => ?_)
  · replace hF := (if_pos h2).symm.trans hF
    refine lv_aload_n hx hb d_m_judge_28 rfl (lv_at hl 1 rfl) ?_
    obtain ⟨v3, z3, hc3, hF⟩ := f_bd_some hF
    refine hw_VR (k := 30) (i := 0) (nk := 1) (As := []) (rest := []) hx hb hml hown hts (c_m_writes_ok l hl0 hLi   _ _ _ hc3) st_m_107 (by decide) rfl (by omega) rfl rfl hK hZ hsz hS hW rfl hl.1 (Nat.le_of_ble_eq_true rfl) d_m_judge_29 (by omega) (by omega) (by omega) (by omega) (fun H locs hW hS => ?_)
    refine lv_if_ne (tgt := 36) hx hb d_m_judge_32 (by decide) (fun h4 => ?_) (fun h4 => ?_)
    · replace hF := (if_neg h4).symm.trans hF
      refine lv_aload_n hx hb d_m_judge_36 rfl (lv_at hl 1 rfl) ?_
      refine lv_iload_n hx hb d_m_judge_37 rfl (lv_at hl 2 rfl) ?_
      refine lv_iconst (v := 3) hx hb d_m_judge_38 (by decide) ?_
      refine lv_bipush (v := 10) hx hb d_m_judge_39 (by decide) ?_
      obtain ⟨v5, z5, hc5, hF⟩ := f_bd_some hF
      refine hw_VR (k := 30) (i := 0) (nk := 1) (As := [.int a1, .int 3, .int 10]) (rest := []) hx hb hml hown hts (c_m_put_ok l hl0 hLi a1 3 10  _ _ _ hc5) st_m_78 (by decide) rfl (by omega) rfl rfl hK hZ hsz hS hW rfl hl.1 (Nat.le_of_ble_eq_true rfl) d_m_judge_41 (by omega) (by omega) (by omega) (by omega) (fun H locs hW hS => ?_)
      refine lv_aload_n hx hb d_m_judge_44 rfl (lv_at hl 1 rfl) ?_
      refine lv_iload_n hx hb d_m_judge_45 rfl (lv_at hl 2 rfl) ?_
      refine lv_iconst (v := 4) hx hb d_m_judge_46 (by decide) ?_
      refine lv_aload_n hx hb d_m_judge_47 rfl (lv_at hl 1 rfl) ?_
      refine lv_aload_n hx hb d_m_judge_48 rfl (lv_at hl 1 rfl) ?_
      refine lv_iload_n hx hb d_m_judge_49 rfl (lv_at hl 2 rfl) ?_
      refine lv_bipush (v := 9) hx hb d_m_judge_50 (by decide) ?_
      obtain ⟨v6, z6, hc6, hF⟩ := f_bd_some hF
      refine hw_VR (k := 30) (i := 0) (nk := 1) (As := [.int a1, .int 9]) (rest := [.ref (L 30 0), .int 4, .int a1, .ref (L 30 0)]) hx hb hml hown hts (c_m_get_ok l hl0 hLi a1 9  _ _ _ hc6) st_m_48 (by decide) rfl (by omega) rfl rfl hK hZ hsz hS hW rfl hl.1 (Nat.le_of_ble_eq_true rfl) d_m_judge_52 (by omega) (by omega) (by omega) (by omega) (fun H locs hW hS => ?_)
      obtain ⟨v7, z7, hc7, hF⟩ := f_bd_some hF
      refine hw_VR (k := 30) (i := 0) (nk := 1) (As := [.int v6]) (rest := [.int 4, .int a1, .ref (L 30 0)]) hx hb hml hown hts (c_m_kindOf_ok l hl0 hLi v6  _ _ _ hc7) st_m_68 (by decide) rfl (by omega) rfl rfl hK hZ hsz hS hW rfl hl.1 (Nat.le_of_ble_eq_true rfl) d_m_judge_55 (by omega) (by omega) (by omega) (by omega) (fun H locs hW hS => ?_)
      obtain ⟨v8, z8, hc8, hF⟩ := f_bd_some hF
      refine hw_VR (k := 30) (i := 0) (nk := 1) (As := [.int a1, .int 4, .int v7]) (rest := []) hx hb hml hown hts (c_m_put_ok l hl0 hLi a1 4 v7  _ _ _ hc8) st_m_78 (by decide) rfl (by omega) rfl rfl hK hZ hsz hS hW rfl hl.1 (Nat.le_of_ble_eq_true rfl) d_m_judge_58 (by omega) (by omega) (by omega) (by omega) (fun H locs hW hS => ?_)
      refine lv_iconst (v := 0) hx hb d_m_judge_61 (by decide) ?_
      refine lv_istore_n (lv' := [(3, .int 0), (2, .int v1), (0, .ref (L 30 0)), (1, .int a1)]) hx hb d_m_judge_62 rfl hl (by decide) rfl (fun ls hl => ?_)
      exact B63 2000 a1 0 z8 hF _ _ _ _ _ hW hS (lv_sub hl [2, 3, 0] rfl) (by omega) (by omega)
    · replace hF := (if_pos h4).symm.trans hF
      exact hw_vret hx hb hr hlk hW hS (by omega) (by omega) d_m_judge_35 hF
  · replace hF := (if_neg h2).symm.trans hF
    refine lv_aload_n hx hb d_m_judge_10 rfl (lv_at hl 1 rfl) ?_
    refine lv_iload_n hx hb d_m_judge_11 rfl (lv_at hl 2 rfl) ?_
    refine lv_iconst (v := 3) hx hb d_m_judge_12 (by decide) ?_
    refine lv_iload_n hx hb d_m_judge_13 rfl (lv_at hl 0 rfl) ?_
    obtain ⟨v9, z9, hc9, hF⟩ := f_bd_some hF
    refine hw_VR (k := 30) (i := 0) (nk := 1) (As := [.int a1, .int 3, .int v1]) (rest := []) hx hb hml hown hts (c_m_put_ok l hl0 hLi a1 3 v1  _ _ _ hc9) st_m_78 (by decide) rfl (by omega) rfl rfl hK hZ hsz hS hW rfl hl.1 (Nat.le_of_ble_eq_true rfl) d_m_judge_14 (by omega) (by omega) (by omega) (by omega) (fun H locs hW hS => ?_)
    refine lv_aload_n hx hb d_m_judge_17 rfl (lv_at hl 1 rfl) ?_
    refine hw_get (k := 30) (i := 0) (n := 1) (j := 20) (v := .ref (L 41 0)) hx hb hts hown hK hW fl_m_41 rfl (by omega) rfl d_m_judge_18 ?_
    refine lv_iload_n hx hb d_m_judge_21 rfl (lv_at hl 0 rfl) ?_
    refine lv_dup2_11 hx hb d_m_judge_22 rfl rfl ?_
    obtain ⟨g10, hF⟩ := f_gd_some hF
    refine hw_iald (k := 41) (i := 0) (n := 1) hx hb hK hW (by decide) rfl (by omega) rfl g10 d_m_judge_23 ?_
    refine lv_iconst (v := 1) hx hb d_m_judge_24 (by decide) ?_
    refine lv_iadd hx hb d_m_judge_25 ?_
    obtain ⟨g11, hF⟩ := f_gd_some hF
    refine hw_iast (k := 41) (i := 0) (n := 1) hx hb hK hLi hW hS (by decide) rfl (by omega) rfl g11 d_m_judge_26 (fun H locs hW hS => ?_)
    exact hw_vret hx hb hr hlk hW hS (by omega) (by omega) d_m_judge_27 hF
