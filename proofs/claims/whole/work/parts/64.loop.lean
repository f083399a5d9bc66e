/-! the walk of the law's loop -/
set_option maxRecDepth 100000 in
set_option maxHeartbeats 4000000 in
theorem law_B1421 (l : Launch) (hl0 : l.stackTraces = false) {L : Nat → Nat → Nat} {Ar : Nat → ClassId} {D : va_G} {b0 : Nat} (hLi : f_L L b0) {p : Program} {e : Env} {s : State} {m : MethodId} {below : List Frame} {meth : Method} {c : Code} {b xn : Nat} {xs : Nat → Int32} (hx : p.tables.exec = Jvm.exec) (hb : c.code = code) (hr : meth.sig.returnType = ret) (hlk : meth.locks = false) (hml : c.maxLocals = 7) (hts : ∀ w ∈ wt, w.before #[Value.ref b] s = true) (hown : s.vm.findClass "BottleReturnLaw" = some m.cls) (hK : f_K Ar D s) (hZ : f_Z b0 s s.heap) (hsz : b0 ≤ s.heap.size) (hb0 : s.heap.size ≤ b0) (hX : va_X b xn xs s s.heap) (hbl : b < s.heap.size) (hbA : ¬ f_A b0 b) (z' : fST) (N : Nat) (k23 : Int32 × fST → Option (Int32 × fST)) (K23 : ∀ (x4 : Int32) (z : fST), k23 (x4, z) = some (1, z') → f_B p l e room_1 s m #[Value.ref b] below meth c L Ar D b0 7 600000 (lw_Z below #[Value.ref b] s) N 23 [(0, .ref b), (1, .ref (L 0 0)), (2, .ref (L 30 0)), (3, .ref (L 50 0)), (4, .int x4)] [] z) (x4 : Int32) (z : fST) (hF : b_l_law_1421 xn xs k23 x4 z = some (1, z')) : f_B p l e room_1 s m #[Value.ref b] below meth c L Ar D b0 7 600000 (lw_Z below #[Value.ref b] s) (N + 0) 1421 [(0, .ref b), (1, .ref (L 0 0)), (2, .ref (L 30 0)), (3, .ref (L 50 0)), (4, .int x4)] [] z := by
  have hRf : room_1.frames = 11 := rfl
  have hRl : room_1.locals = 404 := rfl
  have hRc : room_1.cells = 601024 := rfl
  have hRs : room_1.slots = 7293034 := rfl
  intro H locs ls cells slots hW hS hl hc hs
  unfold b_l_law_1421 at hF
  refine lv_iinc (k := 4) (x := x4) (v := x4 + 8) (lv' := [(4, .int (x4 + 8)), (0, .ref b), (1, .ref (L 0 0)), (2, .ref (L 30 0)), (3, .ref (L 50 0))]) hx hb d_l_law_1421 hl rfl rfl (by decide) rfl (fun ls hl => ?_)
  refine lv_goto (tgt := 23) hx hb d_l_law_1424 (by decide) ?_
  exact K23 (x4 + 8) z hF _ _ _ _ _ hW hS (lv_sub hl [1, 2, 3, 4, 0] rfl) (by omega) (by omega)
set_option maxRecDepth 100000 in
set_option maxHeartbeats 4000000 in
theorem law_B1418 (l : Launch) (hl0 : l.stackTraces = false) {L : Nat → Nat → Nat} {Ar : Nat → ClassId} {D : va_G} {b0 : Nat} (hLi : f_L L b0) {p : Program} {e : Env} {s : State} {m : MethodId} {below : List Frame} {meth : Method} {c : Code} {b xn : Nat} {xs : Nat → Int32} (hx : p.tables.exec = Jvm.exec) (hb : c.code = code) (hr : meth.sig.returnType = ret) (hlk : meth.locks = false) (hml : c.maxLocals = 7) (hts : ∀ w ∈ wt, w.before #[Value.ref b] s = true) (hown : s.vm.findClass "BottleReturnLaw" = some m.cls) (hK : f_K Ar D s) (hZ : f_Z b0 s s.heap) (hsz : b0 ≤ s.heap.size) (hb0 : s.heap.size ≤ b0) (hX : va_X b xn xs s s.heap) (hbl : b < s.heap.size) (hbA : ¬ f_A b0 b) (z' : fST) (N : Nat) (k23 : Int32 × fST → Option (Int32 × fST)) (K23 : ∀ (x4 : Int32) (z : fST), k23 (x4, z) = some (1, z') → f_B p l e room_1 s m #[Value.ref b] below meth c L Ar D b0 7 600000 (lw_Z below #[Value.ref b] s) N 23 [(0, .ref b), (1, .ref (L 0 0)), (2, .ref (L 30 0)), (3, .ref (L 50 0)), (4, .int x4)] [] z) (x4 : Int32) (z : fST) (hF : b_l_law_1418 xn xs k23 x4 z = some (1, z')) : f_B p l e room_1 s m #[Value.ref b] below meth c L Ar D b0 7 600000 (lw_Z below #[Value.ref b] s) (N + 0) 1418 [(0, .ref b), (1, .ref (L 0 0)), (2, .ref (L 30 0)), (3, .ref (L 50 0)), (4, .int x4)] [] z := by
  have hRf : room_1.frames = 11 := rfl
  have hRl : room_1.locals = 404 := rfl
  have hRc : room_1.cells = 601024 := rfl
  have hRs : room_1.slots = 7293034 := rfl
  intro H locs ls cells slots hW hS hl hc hs
  unfold b_l_law_1418 at hF
  refine lv_goto (tgt := 1421) hx hb d_l_law_1418 (by decide) ?_
  exact law_B1421 l hl0 hLi hx hb hr hlk hml hts hown hK hZ hsz hb0 hX hbl hbA z' N k23 K23 x4 z hF _ _ _ _ _ hW hS (lv_sub hl [0, 1, 2, 3, 4] rfl) (by omega) (by omega)
set_option maxRecDepth 100000 in
set_option maxHeartbeats 4000000 in
theorem law_B1365 (l : Launch) (hl0 : l.stackTraces = false) {L : Nat → Nat → Nat} {Ar : Nat → ClassId} {D : va_G} {b0 : Nat} (hLi : f_L L b0) {p : Program} {e : Env} {s : State} {m : MethodId} {below : List Frame} {meth : Method} {c : Code} {b xn : Nat} {xs : Nat → Int32} (hx : p.tables.exec = Jvm.exec) (hb : c.code = code) (hr : meth.sig.returnType = ret) (hlk : meth.locks = false) (hml : c.maxLocals = 7) (hts : ∀ w ∈ wt, w.before #[Value.ref b] s = true) (hown : s.vm.findClass "BottleReturnLaw" = some m.cls) (hK : f_K Ar D s) (hZ : f_Z b0 s s.heap) (hsz : b0 ≤ s.heap.size) (hb0 : s.heap.size ≤ b0) (hX : va_X b xn xs s s.heap) (hbl : b < s.heap.size) (hbA : ¬ f_A b0 b) (z' : fST) (N : Nat) (k23 : Int32 × fST → Option (Int32 × fST)) (K23 : ∀ (x4 : Int32) (z : fST), k23 (x4, z) = some (1, z') → f_B p l e room_1 s m #[Value.ref b] below meth c L Ar D b0 7 600000 (lw_Z below #[Value.ref b] s) N 23 [(0, .ref b), (1, .ref (L 0 0)), (2, .ref (L 30 0)), (3, .ref (L 50 0)), (4, .int x4)] [] z) (x4 : Int32) (z : fST) (hF : b_l_law_1365 xn xs k23 x4 z = some (1, z')) : f_B p l e room_1 s m #[Value.ref b] below meth c L Ar D b0 7 600000 (lw_Z below #[Value.ref b] s) (N + 1) 1365 [(0, .ref b), (1, .ref (L 0 0)), (2, .ref (L 30 0)), (3, .ref (L 50 0)), (4, .int x4)] [] z := by
  have hRf : room_1.frames = 11 := rfl
  have hRl : room_1.locals = 404 := rfl
  have hRc : room_1.cells = 601024 := rfl
  have hRs : room_1.slots = 7293034 := rfl
  intro H locs ls cells slots hW hS hl hc hs
  unfold b_l_law_1365 at hF
  refine lv_aload_n hx hb d_l_law_1365 rfl (lv_at hl 1 rfl) ?_
  refine lv_aload_n hx hb d_l_law_1366 rfl (lv_at hl 0 rfl) ?_
  refine lv_iload hx hb d_l_law_1367 (lv_at hl 4 rfl) ?_
  refine lv_iconst (v := 1) hx hb d_l_law_1369 (by decide) ?_
  refine lv_iadd hx hb d_l_law_1370 ?_
  obtain ⟨g203, hF⟩ := f_gd_some hF
  refine va_sld hx hb hX hbl hbA hS (f_ib_in g203) d_l_law_1371 ?_
  refine lv_aload_n hx hb d_l_law_1372 rfl (lv_at hl 3 rfl) ?_
  obtain ⟨v204, z204, hc204, hF⟩ := f_bd_some hF
  refine hw_SW (As := [.ref (L 0 0), .int (xs (f_ix (x4 + 1))), .ref (L 50 0)]) (rest := []) hx hb hml hown hts (c_l_total_ok l hl0 hLi (xs (f_ix (x4 + 1)))  _ _ _ hc204) st_l_162 hK hZ hsz hS hW rfl hl.1 (Nat.le_of_ble_eq_true rfl) d_l_law_1373 (by omega) (by omega) (by omega) (by omega) (fun H locs hW hS => ?_)
  refine lv_istore (lv' := [(5, .int v204), (0, .ref b), (1, .ref (L 0 0)), (2, .ref (L 30 0)), (3, .ref (L 50 0)), (4, .int x4)]) hx hb d_l_law_1376 hl (by decide) rfl (fun ls hl => ?_)
  refine lv_aload_n hx hb d_l_law_1378 rfl (lv_at hl 3 rfl) ?_
  refine lv_aload_n hx hb d_l_law_1379 rfl (lv_at hl 1 rfl) ?_
  refine lv_iload hx hb d_l_law_1380 (lv_at hl 5 rfl) ?_
  refine lv_iconst (v := 1) hx hb d_l_law_1382 (by decide) ?_
  refine lv_iadd hx hb d_l_law_1383 ?_
  obtain ⟨g205, hF⟩ := f_gd_some hF
  refine va_sld hx hb hX hbl hbA hS (f_ib_in g205) d_l_law_1384 ?_
  obtain ⟨v206, z206, hc206, hF⟩ := f_bd_some hF
  refine hw_VR (k := 30) (i := 0) (nk := 1) (As := [.int (xs (f_ix (x4 + 1)))]) (rest := []) hx hb hml hown hts (c_m_total_ok l hl0 hLi (xs (f_ix (x4 + 1)))  _ _ _ hc206) st_l_164 (by decide) rfl (by omega) rfl rfl hK hZ hsz hS hW rfl hl.1 (Nat.le_of_ble_eq_true rfl) d_l_law_1385 (by omega) (by omega) (by omega) (by omega) (fun H locs hW hS => ?_)
  refine lv_istore (lv' := [(6, .int v206), (5, .int v204), (0, .ref b), (1, .ref (L 0 0)), (2, .ref (L 30 0)), (3, .ref (L 50 0)), (4, .int x4)]) hx hb d_l_law_1388 hl (by decide) rfl (fun ls hl => ?_)
  refine lv_aload_n hx hb d_l_law_1390 rfl (lv_at hl 4 rfl) ?_
  obtain ⟨v207, z207, hc207, hF⟩ := f_bd_some hF
  refine hw_VR (k := 30) (i := 0) (nk := 1) (As := []) (rest := []) hx hb hml hown hts (c_m_thrown_ok l hl0 hLi   _ _ _ hc207) st_l_92 (by decide) rfl (by omega) rfl rfl hK hZ hsz hS hW rfl hl.1 (Nat.le_of_ble_eq_true rfl) d_l_law_1391 (by omega) (by omega) (by omega) (by omega) (fun H locs hW hS => ?_)
  refine lv_iload hx hb d_l_law_1394 (lv_at hl 1 rfl) ?_
  refine lv_icmp_eq (tgt := 1401) hx hb d_l_law_1396 (by decide) (fun h208 => ?_) (fun h208 => ?_)
  · replace hF := (if_pos h208).symm.trans hF
    refine lv_iload hx hb d_l_law_1401 (lv_at hl 1 rfl) ?_
    refine lv_if_ne (tgt := 1418) hx hb d_l_law_1403 (by decide) (fun h209 => ?_) (fun h209 => ?_)
    · replace hF := (if_neg h209).symm.trans hF
      exact law_B1418 l hl0 hLi hx hb hr hlk hml hts hown hK hZ hsz hb0 hX hbl hbA z' N k23 K23 x4 z207 hF _ _ _ _ _ hW hS (lv_sub hl [2, 3, 4, 5, 6] rfl) (by omega) (by omega)
    · replace hF := (if_pos h209).symm.trans hF
      refine lv_aload_n hx hb d_l_law_1406 rfl (lv_at hl 5 rfl) ?_
      refine lv_iconst (v := 0) hx hb d_l_law_1407 (by decide) ?_
      refine hw_lald hx hb hK hW d_l_law_1408 ?_
      refine lv_iload hx hb d_l_law_1409 (lv_at hl 0 rfl) ?_
      refine lv_i2l hx hb d_l_law_1411 rfl ?_
      refine W.lcmp hx hb d_l_law_1412 ?_
      refine lv_if_eq (tgt := 1418) hx hb d_l_law_1413 (by decide) (fun h210 => ?_) (fun h210 => ?_)
      · replace hF := (if_pos h210).symm.trans hF
        exact law_B1418 l hl0 hLi hx hb hr hlk hml hts hown hK hZ hsz hb0 hX hbl hbA z' N k23 K23 x4 z207 hF _ _ _ _ _ hW hS (lv_sub hl [2, 3, 4, 5, 6] rfl) (by omega) (by omega)
      · replace hF := (if_neg h210).symm.trans hF
        refine lv_iconst (v := 0) hx hb d_l_law_1416 (by decide) ?_
        exact hw_lawret hx hb hr hlk hS hb0 (by omega) (by omega) d_l_law_1417 hF
  · replace hF := (if_neg h208).symm.trans hF
    refine lv_iconst (v := 0) hx hb d_l_law_1399 (by decide) ?_
    exact hw_lawret hx hb hr hlk hS hb0 (by omega) (by omega) d_l_law_1400 hF
set_option maxRecDepth 100000 in
set_option maxHeartbeats 4000000 in
theorem law_B1362 (l : Launch) (hl0 : l.stackTraces = false) {L : Nat → Nat → Nat} {Ar : Nat → ClassId} {D : va_G} {b0 : Nat} (hLi : f_L L b0) {p : Program} {e : Env} {s : State} {m : MethodId} {below : List Frame} {meth : Method} {c : Code} {b xn : Nat} {xs : Nat → Int32} (hx : p.tables.exec = Jvm.exec) (hb : c.code = code) (hr : meth.sig.returnType = ret) (hlk : meth.locks = false) (hml : c.maxLocals = 7) (hts : ∀ w ∈ wt, w.before #[Value.ref b] s = true) (hown : s.vm.findClass "BottleReturnLaw" = some m.cls) (hK : f_K Ar D s) (hZ : f_Z b0 s s.heap) (hsz : b0 ≤ s.heap.size) (hb0 : s.heap.size ≤ b0) (hX : va_X b xn xs s s.heap) (hbl : b < s.heap.size) (hbA : ¬ f_A b0 b) (z' : fST) (N : Nat) (k23 : Int32 × fST → Option (Int32 × fST)) (K23 : ∀ (x4 : Int32) (z : fST), k23 (x4, z) = some (1, z') → f_B p l e room_1 s m #[Value.ref b] below meth c L Ar D b0 7 600000 (lw_Z below #[Value.ref b] s) N 23 [(0, .ref b), (1, .ref (L 0 0)), (2, .ref (L 30 0)), (3, .ref (L 50 0)), (4, .int x4)] [] z) (x4 : Int32) (z : fST) (hF : b_l_law_1362 xn xs k23 x4 z = some (1, z')) : f_B p l e room_1 s m #[Value.ref b] below meth c L Ar D b0 7 600000 (lw_Z below #[Value.ref b] s) (N + 0) 1362 [(0, .ref b), (1, .ref (L 0 0)), (2, .ref (L 30 0)), (3, .ref (L 50 0)), (4, .int x4)] [] z := by
  have hRf : room_1.frames = 11 := rfl
  have hRl : room_1.locals = 404 := rfl
  have hRc : room_1.cells = 601024 := rfl
  have hRs : room_1.slots = 7293034 := rfl
  intro H locs ls cells slots hW hS hl hc hs
  unfold b_l_law_1362 at hF
  refine lv_goto (tgt := 1421) hx hb d_l_law_1362 (by decide) ?_
  exact law_B1421 l hl0 hLi hx hb hr hlk hml hts hown hK hZ hsz hb0 hX hbl hbA z' N k23 K23 x4 z hF _ _ _ _ _ hW hS (lv_sub hl [0, 1, 2, 3, 4] rfl) (by omega) (by omega)
set_option maxRecDepth 100000 in
set_option maxHeartbeats 4000000 in
theorem law_B1297 (l : Launch) (hl0 : l.stackTraces = false) {L : Nat → Nat → Nat} {Ar : Nat → ClassId} {D : va_G} {b0 : Nat} (hLi : f_L L b0) {p : Program} {e : Env} {s : State} {m : MethodId} {below : List Frame} {meth : Method} {c : Code} {b xn : Nat} {xs : Nat → Int32} (hx : p.tables.exec = Jvm.exec) (hb : c.code = code) (hr : meth.sig.returnType = ret) (hlk : meth.locks = false) (hml : c.maxLocals = 7) (hts : ∀ w ∈ wt, w.before #[Value.ref b] s = true) (hown : s.vm.findClass "BottleReturnLaw" = some m.cls) (hK : f_K Ar D s) (hZ : f_Z b0 s s.heap) (hsz : b0 ≤ s.heap.size) (hb0 : s.heap.size ≤ b0) (hX : va_X b xn xs s s.heap) (hbl : b < s.heap.size) (hbA : ¬ f_A b0 b) (z' : fST) (N : Nat) (k23 : Int32 × fST → Option (Int32 × fST)) (K23 : ∀ (x4 : Int32) (z : fST), k23 (x4, z) = some (1, z') → f_B p l e room_1 s m #[Value.ref b] below meth c L Ar D b0 7 600000 (lw_Z below #[Value.ref b] s) N 23 [(0, .ref b), (1, .ref (L 0 0)), (2, .ref (L 30 0)), (3, .ref (L 50 0)), (4, .int x4)] [] z) (x4 : Int32) (z : fST) (hF : b_l_law_1297 xn xs k23 x4 z = some (1, z')) : f_B p l e room_1 s m #[Value.ref b] below meth c L Ar D b0 7 600000 (lw_Z below #[Value.ref b] s) (N + 2) 1297 [(0, .ref b), (1, .ref (L 0 0)), (2, .ref (L 30 0)), (3, .ref (L 50 0)), (4, .int x4)] [] z := by
  have hRf : room_1.frames = 11 := rfl
  have hRl : room_1.locals = 404 := rfl
  have hRc : room_1.cells = 601024 := rfl
  have hRs : room_1.slots = 7293034 := rfl
  intro H locs ls cells slots hW hS hl hc hs
  unfold b_l_law_1297 at hF
  refine lv_aload_n hx hb d_l_law_1297 rfl (lv_at hl 1 rfl) ?_
  refine lv_aload_n hx hb d_l_law_1298 rfl (lv_at hl 0 rfl) ?_
  refine lv_iload hx hb d_l_law_1299 (lv_at hl 4 rfl) ?_
  refine lv_iconst (v := 1) hx hb d_l_law_1301 (by decide) ?_
  refine lv_iadd hx hb d_l_law_1302 ?_
  obtain ⟨g193, hF⟩ := f_gd_some hF
  refine va_sld hx hb hX hbl hbA hS (f_ib_in g193) d_l_law_1303 ?_
  refine lv_aload_n hx hb d_l_law_1304 rfl (lv_at hl 0 rfl) ?_
  refine lv_iload hx hb d_l_law_1305 (lv_at hl 4 rfl) ?_
  refine lv_iconst (v := 2) hx hb d_l_law_1307 (by decide) ?_
  refine lv_iadd hx hb d_l_law_1308 ?_
  obtain ⟨g194, hF⟩ := f_gd_some hF
  refine va_sld hx hb hX hbl hbA hS (f_ib_in g194) d_l_law_1309 ?_
  refine lv_aload_n hx hb d_l_law_1310 rfl (lv_at hl 3 rfl) ?_
  obtain ⟨v195, z195, hc195, hF⟩ := f_bd_some hF
  refine hw_SW (As := [.ref (L 0 0), .int (xs (f_ix (x4 + 1))), .int (xs (f_ix (x4 + 2))), .ref (L 50 0)]) (rest := []) hx hb hml hown hts (c_l_bin_ok l hl0 hLi (xs (f_ix (x4 + 1))) (xs (f_ix (x4 + 2)))  _ _ _ hc195) st_l_159 hK hZ hsz hS hW rfl hl.1 (Nat.le_of_ble_eq_true rfl) d_l_law_1311 (by omega) (by omega) (by omega) (by omega) (fun H locs hW hS => ?_)
  refine lv_istore (lv' := [(5, .int v195), (0, .ref b), (1, .ref (L 0 0)), (2, .ref (L 30 0)), (3, .ref (L 50 0)), (4, .int x4)]) hx hb d_l_law_1314 hl (by decide) rfl (fun ls hl => ?_)
  refine lv_aload_n hx hb d_l_law_1316 rfl (lv_at hl 3 rfl) ?_
  refine lv_aload_n hx hb d_l_law_1317 rfl (lv_at hl 1 rfl) ?_
  refine lv_iload hx hb d_l_law_1318 (lv_at hl 5 rfl) ?_
  refine lv_iconst (v := 1) hx hb d_l_law_1320 (by decide) ?_
  refine lv_iadd hx hb d_l_law_1321 ?_
  obtain ⟨g196, hF⟩ := f_gd_some hF
  refine va_sld hx hb hX hbl hbA hS (f_ib_in g196) d_l_law_1322 ?_
  refine lv_aload_n hx hb d_l_law_1323 rfl (lv_at hl 1 rfl) ?_
  refine lv_iload hx hb d_l_law_1324 (lv_at hl 5 rfl) ?_
  refine lv_iconst (v := 2) hx hb d_l_law_1326 (by decide) ?_
  refine lv_iadd hx hb d_l_law_1327 ?_
  obtain ⟨g197, hF⟩ := f_gd_some hF
  refine va_sld hx hb hX hbl hbA hS (f_ib_in g197) d_l_law_1328 ?_
  obtain ⟨v198, z198, hc198, hF⟩ := f_bd_some hF
  refine hw_VR (k := 30) (i := 0) (nk := 1) (As := [.int (xs (f_ix (x4 + 1))), .int (xs (f_ix (x4 + 2)))]) (rest := []) hx hb hml hown hts (c_m_bin_ok l hl0 hLi (xs (f_ix (x4 + 1))) (xs (f_ix (x4 + 2)))  _ _ _ hc198) st_l_161 (by decide) rfl (by omega) rfl rfl hK hZ hsz hS hW rfl hl.1 (Nat.le_of_ble_eq_true rfl) d_l_law_1329 (by omega) (by omega) (by omega) (by omega) (fun H locs hW hS => ?_)
  refine lv_istore (lv' := [(6, .int v198), (5, .int v195), (0, .ref b), (1, .ref (L 0 0)), (2, .ref (L 30 0)), (3, .ref (L 50 0)), (4, .int x4)]) hx hb d_l_law_1332 hl (by decide) rfl (fun ls hl => ?_)
  refine lv_aload_n hx hb d_l_law_1334 rfl (lv_at hl 4 rfl) ?_
  obtain ⟨v199, z199, hc199, hF⟩ := f_bd_some hF
  refine hw_VR (k := 30) (i := 0) (nk := 1) (As := []) (rest := []) hx hb hml hown hts (c_m_thrown_ok l hl0 hLi   _ _ _ hc199) st_l_92 (by decide) rfl (by omega) rfl rfl hK hZ hsz hS hW rfl hl.1 (Nat.le_of_ble_eq_true rfl) d_l_law_1335 (by omega) (by omega) (by omega) (by omega) (fun H locs hW hS => ?_)
  refine lv_iload hx hb d_l_law_1338 (lv_at hl 1 rfl) ?_
  refine lv_icmp_eq (tgt := 1345) hx hb d_l_law_1340 (by decide) (fun h200 => ?_) (fun h200 => ?_)
  · replace hF := (if_pos h200).symm.trans hF
    refine lv_iload hx hb d_l_law_1345 (lv_at hl 1 rfl) ?_
    refine lv_if_ne (tgt := 1362) hx hb d_l_law_1347 (by decide) (fun h201 => ?_) (fun h201 => ?_)
    · replace hF := (if_neg h201).symm.trans hF
      exact law_B1362 l hl0 hLi hx hb hr hlk hml hts hown hK hZ hsz hb0 hX hbl hbA z' N k23 K23 x4 z199 hF _ _ _ _ _ hW hS (lv_sub hl [2, 3, 4, 5, 6] rfl) (by omega) (by omega)
    · replace hF := (if_pos h201).symm.trans hF
      refine lv_aload_n hx hb d_l_law_1350 rfl (lv_at hl 5 rfl) ?_
      refine lv_iconst (v := 0) hx hb d_l_law_1351 (by decide) ?_
      refine hw_lald hx hb hK hW d_l_law_1352 ?_
      refine lv_iload hx hb d_l_law_1353 (lv_at hl 0 rfl) ?_
      refine lv_i2l hx hb d_l_law_1355 rfl ?_
      refine W.lcmp hx hb d_l_law_1356 ?_
      refine lv_if_eq (tgt := 1362) hx hb d_l_law_1357 (by decide) (fun h202 => ?_) (fun h202 => ?_)
      · replace hF := (if_pos h202).symm.trans hF
        exact law_B1362 l hl0 hLi hx hb hr hlk hml hts hown hK hZ hsz hb0 hX hbl hbA z' N k23 K23 x4 z199 hF _ _ _ _ _ hW hS (lv_sub hl [2, 3, 4, 5, 6] rfl) (by omega) (by omega)
      · replace hF := (if_neg h202).symm.trans hF
        refine lv_iconst (v := 0) hx hb d_l_law_1360 (by decide) ?_
        exact hw_lawret hx hb hr hlk hS hb0 (by omega) (by omega) d_l_law_1361 hF
  · replace hF := (if_neg h200).symm.trans hF
    refine lv_iconst (v := 0) hx hb d_l_law_1343 (by decide) ?_
    exact hw_lawret hx hb hr hlk hS hb0 (by omega) (by omega) d_l_law_1344 hF
set_option maxRecDepth 100000 in
set_option maxHeartbeats 4000000 in
theorem law_B1272 (l : Launch) (hl0 : l.stackTraces = false) {L : Nat → Nat → Nat} {Ar : Nat → ClassId} {D : va_G} {b0 : Nat} (hLi : f_L L b0) {p : Program} {e : Env} {s : State} {m : MethodId} {below : List Frame} {meth : Method} {c : Code} {b xn : Nat} {xs : Nat → Int32} (hx : p.tables.exec = Jvm.exec) (hb : c.code = code) (hr : meth.sig.returnType = ret) (hlk : meth.locks = false) (hml : c.maxLocals = 7) (hts : ∀ w ∈ wt, w.before #[Value.ref b] s = true) (hown : s.vm.findClass "BottleReturnLaw" = some m.cls) (hK : f_K Ar D s) (hZ : f_Z b0 s s.heap) (hsz : b0 ≤ s.heap.size) (hb0 : s.heap.size ≤ b0) (hX : va_X b xn xs s s.heap) (hbl : b < s.heap.size) (hbA : ¬ f_A b0 b) (z' : fST) (N : Nat) (k23 : Int32 × fST → Option (Int32 × fST)) (K23 : ∀ (x4 : Int32) (z : fST), k23 (x4, z) = some (1, z') → f_B p l e room_1 s m #[Value.ref b] below meth c L Ar D b0 7 600000 (lw_Z below #[Value.ref b] s) N 23 [(0, .ref b), (1, .ref (L 0 0)), (2, .ref (L 30 0)), (3, .ref (L 50 0)), (4, .int x4)] [] z) (x4 : Int32) (z : fST) (hF : b_l_law_1272 xn xs k23 x4 z = some (1, z')) : f_B p l e room_1 s m #[Value.ref b] below meth c L Ar D b0 7 600000 (lw_Z below #[Value.ref b] s) (N + 0) 1272 [(0, .ref b), (1, .ref (L 0 0)), (2, .ref (L 30 0)), (3, .ref (L 50 0)), (4, .int x4)] [] z := by
  have hRf : room_1.frames = 11 := rfl
  have hRl : room_1.locals = 404 := rfl
  have hRc : room_1.cells = 601024 := rfl
  have hRs : room_1.slots = 7293034 := rfl
  intro H locs ls cells slots hW hS hl hc hs
  unfold b_l_law_1272 at hF
  refine lv_aload_n hx hb d_l_law_1272 rfl (lv_at hl 1 rfl) ?_
  refine lv_aload_n hx hb d_l_law_1273 rfl (lv_at hl 0 rfl) ?_
  refine lv_iload hx hb d_l_law_1274 (lv_at hl 4 rfl) ?_
  refine lv_iconst (v := 1) hx hb d_l_law_1276 (by decide) ?_
  refine lv_iadd hx hb d_l_law_1277 ?_
  obtain ⟨g188, hF⟩ := f_gd_some hF
  refine va_sld hx hb hX hbl hbA hS (f_ib_in g188) d_l_law_1278 ?_
  obtain ⟨v189, z189, hc189, hF⟩ := f_bd_some hF
  refine hw_VR (k := 0) (i := 0) (nk := 1) (As := [.int (xs (f_ix (x4 + 1)))]) (rest := []) hx hb hml hown hts (c_b_belt_ok l hl0 hLi (xs (f_ix (x4 + 1)))  _ _ _ hc189) st_l_155 (by decide) rfl (by omega) rfl rfl hK hZ hsz hS hW rfl hl.1 (Nat.le_of_ble_eq_true rfl) d_l_law_1279 (by omega) (by omega) (by omega) (by omega) (fun H locs hW hS => ?_)
  refine lv_aload_n hx hb d_l_law_1282 rfl (lv_at hl 2 rfl) ?_
  refine lv_aload_n hx hb d_l_law_1283 rfl (lv_at hl 0 rfl) ?_
  refine lv_iload hx hb d_l_law_1284 (lv_at hl 4 rfl) ?_
  refine lv_iconst (v := 1) hx hb d_l_law_1286 (by decide) ?_
  refine lv_iadd hx hb d_l_law_1287 ?_
  obtain ⟨g190, hF⟩ := f_gd_some hF
  refine va_sld hx hb hX hbl hbA hS (f_ib_in g190) d_l_law_1288 ?_
  obtain ⟨v191, z191, hc191, hF⟩ := f_bd_some hF
  refine hw_VR (k := 30) (i := 0) (nk := 1) (As := [.int (xs (f_ix (x4 + 1)))]) (rest := [.int v189]) hx hb hml hown hts (c_m_belt_ok l hl0 hLi (xs (f_ix (x4 + 1)))  _ _ _ hc191) st_l_158 (by decide) rfl (by omega) rfl rfl hK hZ hsz hS hW rfl hl.1 (Nat.le_of_ble_eq_true rfl) d_l_law_1289 (by omega) (by omega) (by omega) (by omega) (fun H locs hW hS => ?_)
  refine lv_icmp_eq (tgt := 1421) hx hb d_l_law_1292 (by decide) (fun h192 => ?_) (fun h192 => ?_)
  · replace hF := (if_pos h192).symm.trans hF
    exact law_B1421 l hl0 hLi hx hb hr hlk hml hts hown hK hZ hsz hb0 hX hbl hbA z' N k23 K23 x4 z191 hF _ _ _ _ _ hW hS (lv_sub hl [0, 1, 2, 3, 4] rfl) (by omega) (by omega)
  · replace hF := (if_neg h192).symm.trans hF
    refine lv_iconst (v := 0) hx hb d_l_law_1295 (by decide) ?_
    exact hw_lawret hx hb hr hlk hS hb0 (by omega) (by omega) d_l_law_1296 hF
set_option maxRecDepth 100000 in
set_option maxHeartbeats 4000000 in
theorem law_B1269 (l : Launch) (hl0 : l.stackTraces = false) {L : Nat → Nat → Nat} {Ar : Nat → ClassId} {D : va_G} {b0 : Nat} (hLi : f_L L b0) {p : Program} {e : Env} {s : State} {m : MethodId} {below : List Frame} {meth : Method} {c : Code} {b xn : Nat} {xs : Nat → Int32} (hx : p.tables.exec = Jvm.exec) (hb : c.code = code) (hr : meth.sig.returnType = ret) (hlk : meth.locks = false) (hml : c.maxLocals = 7) (hts : ∀ w ∈ wt, w.before #[Value.ref b] s = true) (hown : s.vm.findClass "BottleReturnLaw" = some m.cls) (hK : f_K Ar D s) (hZ : f_Z b0 s s.heap) (hsz : b0 ≤ s.heap.size) (hb0 : s.heap.size ≤ b0) (hX : va_X b xn xs s s.heap) (hbl : b < s.heap.size) (hbA : ¬ f_A b0 b) (z' : fST) (N : Nat) (k23 : Int32 × fST → Option (Int32 × fST)) (K23 : ∀ (x4 : Int32) (z : fST), k23 (x4, z) = some (1, z') → f_B p l e room_1 s m #[Value.ref b] below meth c L Ar D b0 7 600000 (lw_Z below #[Value.ref b] s) N 23 [(0, .ref b), (1, .ref (L 0 0)), (2, .ref (L 30 0)), (3, .ref (L 50 0)), (4, .int x4)] [] z) (x4 : Int32) (z : fST) (hF : b_l_law_1269 xn xs k23 x4 z = some (1, z')) : f_B p l e room_1 s m #[Value.ref b] below meth c L Ar D b0 7 600000 (lw_Z below #[Value.ref b] s) (N + 0) 1269 [(0, .ref b), (1, .ref (L 0 0)), (2, .ref (L 30 0)), (3, .ref (L 50 0)), (4, .int x4)] [] z := by
  have hRf : room_1.frames = 11 := rfl
  have hRl : room_1.locals = 404 := rfl
  have hRc : room_1.cells = 601024 := rfl
  have hRs : room_1.slots = 7293034 := rfl
  intro H locs ls cells slots hW hS hl hc hs
  unfold b_l_law_1269 at hF
  refine lv_goto (tgt := 1421) hx hb d_l_law_1269 (by decide) ?_
  exact law_B1421 l hl0 hLi hx hb hr hlk hml hts hown hK hZ hsz hb0 hX hbl hbA z' N k23 K23 x4 z hF _ _ _ _ _ hW hS (lv_sub hl [0, 1, 2, 3, 4] rfl) (by omega) (by omega)
set_option maxRecDepth 100000 in
set_option maxHeartbeats 4000000 in
theorem law_B1204 (l : Launch) (hl0 : l.stackTraces = false) {L : Nat → Nat → Nat} {Ar : Nat → ClassId} {D : va_G} {b0 : Nat} (hLi : f_L L b0) {p : Program} {e : Env} {s : State} {m : MethodId} {below : List Frame} {meth : Method} {c : Code} {b xn : Nat} {xs : Nat → Int32} (hx : p.tables.exec = Jvm.exec) (hb : c.code = code) (hr : meth.sig.returnType = ret) (hlk : meth.locks = false) (hml : c.maxLocals = 7) (hts : ∀ w ∈ wt, w.before #[Value.ref b] s = true) (hown : s.vm.findClass "BottleReturnLaw" = some m.cls) (hK : f_K Ar D s) (hZ : f_Z b0 s s.heap) (hsz : b0 ≤ s.heap.size) (hb0 : s.heap.size ≤ b0) (hX : va_X b xn xs s s.heap) (hbl : b < s.heap.size) (hbA : ¬ f_A b0 b) (z' : fST) (N : Nat) (k23 : Int32 × fST → Option (Int32 × fST)) (K23 : ∀ (x4 : Int32) (z : fST), k23 (x4, z) = some (1, z') → f_B p l e room_1 s m #[Value.ref b] below meth c L Ar D b0 7 600000 (lw_Z below #[Value.ref b] s) N 23 [(0, .ref b), (1, .ref (L 0 0)), (2, .ref (L 30 0)), (3, .ref (L 50 0)), (4, .int x4)] [] z) (x4 : Int32) (z : fST) (hF : b_l_law_1204 xn xs k23 x4 z = some (1, z')) : f_B p l e room_1 s m #[Value.ref b] below meth c L Ar D b0 7 600000 (lw_Z below #[Value.ref b] s) (N + 1) 1204 [(0, .ref b), (1, .ref (L 0 0)), (2, .ref (L 30 0)), (3, .ref (L 50 0)), (4, .int x4)] [] z := by
  have hRf : room_1.frames = 11 := rfl
  have hRl : room_1.locals = 404 := rfl
  have hRc : room_1.cells = 601024 := rfl
  have hRs : room_1.slots = 7293034 := rfl
  intro H locs ls cells slots hW hS hl hc hs
  unfold b_l_law_1204 at hF
  refine lv_aload_n hx hb d_l_law_1204 rfl (lv_at hl 1 rfl) ?_
  refine lv_aload_n hx hb d_l_law_1205 rfl (lv_at hl 0 rfl) ?_
  refine lv_iload hx hb d_l_law_1206 (lv_at hl 4 rfl) ?_
  refine lv_iconst (v := 1) hx hb d_l_law_1208 (by decide) ?_
  refine lv_iadd hx hb d_l_law_1209 ?_
  obtain ⟨g178, hF⟩ := f_gd_some hF
  refine va_sld hx hb hX hbl hbA hS (f_ib_in g178) d_l_law_1210 ?_
  refine lv_aload_n hx hb d_l_law_1211 rfl (lv_at hl 0 rfl) ?_
  refine lv_iload hx hb d_l_law_1212 (lv_at hl 4 rfl) ?_
  refine lv_iconst (v := 2) hx hb d_l_law_1214 (by decide) ?_
  refine lv_iadd hx hb d_l_law_1215 ?_
  obtain ⟨g179, hF⟩ := f_gd_some hF
  refine va_sld hx hb hX hbl hbA hS (f_ib_in g179) d_l_law_1216 ?_
  refine lv_aload_n hx hb d_l_law_1217 rfl (lv_at hl 3 rfl) ?_
  obtain ⟨v180, z180, hc180, hF⟩ := f_bd_some hF
  refine hw_SW (As := [.ref (L 0 0), .int (xs (f_ix (x4 + 1))), .int (xs (f_ix (x4 + 2))), .ref (L 50 0)]) (rest := []) hx hb hml hown hts (c_l_container_ok l hl0 hLi (xs (f_ix (x4 + 1))) (xs (f_ix (x4 + 2)))  _ _ _ hc180) st_l_152 hK hZ hsz hS hW rfl hl.1 (Nat.le_of_ble_eq_true rfl) d_l_law_1218 (by omega) (by omega) (by omega) (by omega) (fun H locs hW hS => ?_)
  refine lv_istore (lv' := [(5, .int v180), (0, .ref b), (1, .ref (L 0 0)), (2, .ref (L 30 0)), (3, .ref (L 50 0)), (4, .int x4)]) hx hb d_l_law_1221 hl (by decide) rfl (fun ls hl => ?_)
  refine lv_aload_n hx hb d_l_law_1223 rfl (lv_at hl 3 rfl) ?_
  refine lv_aload_n hx hb d_l_law_1224 rfl (lv_at hl 1 rfl) ?_
  refine lv_iload hx hb d_l_law_1225 (lv_at hl 5 rfl) ?_
  refine lv_iconst (v := 1) hx hb d_l_law_1227 (by decide) ?_
  refine lv_iadd hx hb d_l_law_1228 ?_
  obtain ⟨g181, hF⟩ := f_gd_some hF
  refine va_sld hx hb hX hbl hbA hS (f_ib_in g181) d_l_law_1229 ?_
  refine lv_aload_n hx hb d_l_law_1230 rfl (lv_at hl 1 rfl) ?_
  refine lv_iload hx hb d_l_law_1231 (lv_at hl 5 rfl) ?_
  refine lv_iconst (v := 2) hx hb d_l_law_1233 (by decide) ?_
  refine lv_iadd hx hb d_l_law_1234 ?_
  obtain ⟨g182, hF⟩ := f_gd_some hF
  refine va_sld hx hb hX hbl hbA hS (f_ib_in g182) d_l_law_1235 ?_
  obtain ⟨v183, z183, hc183, hF⟩ := f_bd_some hF
  refine hw_VR (k := 30) (i := 0) (nk := 1) (As := [.int (xs (f_ix (x4 + 1))), .int (xs (f_ix (x4 + 2)))]) (rest := []) hx hb hml hown hts (c_m_container_ok l hl0 hLi (xs (f_ix (x4 + 1))) (xs (f_ix (x4 + 2)))  _ _ _ hc183) st_l_154 (by decide) rfl (by omega) rfl rfl hK hZ hsz hS hW rfl hl.1 (Nat.le_of_ble_eq_true rfl) d_l_law_1236 (by omega) (by omega) (by omega) (by omega) (fun H locs hW hS => ?_)
  refine lv_istore (lv' := [(6, .int v183), (5, .int v180), (0, .ref b), (1, .ref (L 0 0)), (2, .ref (L 30 0)), (3, .ref (L 50 0)), (4, .int x4)]) hx hb d_l_law_1239 hl (by decide) rfl (fun ls hl => ?_)
  refine lv_aload_n hx hb d_l_law_1241 rfl (lv_at hl 4 rfl) ?_
  obtain ⟨v184, z184, hc184, hF⟩ := f_bd_some hF
  refine hw_VR (k := 30) (i := 0) (nk := 1) (As := []) (rest := []) hx hb hml hown hts (c_m_thrown_ok l hl0 hLi   _ _ _ hc184) st_l_92 (by decide) rfl (by omega) rfl rfl hK hZ hsz hS hW rfl hl.1 (Nat.le_of_ble_eq_true rfl) d_l_law_1242 (by omega) (by omega) (by omega) (by omega) (fun H locs hW hS => ?_)
  refine lv_iload hx hb d_l_law_1245 (lv_at hl 1 rfl) ?_
  refine lv_icmp_eq (tgt := 1252) hx hb d_l_law_1247 (by decide) (fun h185 => ?_) (fun h185 => ?_)
  · replace hF := (if_pos h185).symm.trans hF
    refine lv_iload hx hb d_l_law_1252 (lv_at hl 1 rfl) ?_
    refine lv_if_ne (tgt := 1269) hx hb d_l_law_1254 (by decide) (fun h186 => ?_) (fun h186 => ?_)
    · replace hF := (if_neg h186).symm.trans hF
      exact law_B1269 l hl0 hLi hx hb hr hlk hml hts hown hK hZ hsz hb0 hX hbl hbA z' N k23 K23 x4 z184 hF _ _ _ _ _ hW hS (lv_sub hl [2, 3, 4, 5, 6] rfl) (by omega) (by omega)
    · replace hF := (if_pos h186).symm.trans hF
      refine lv_aload_n hx hb d_l_law_1257 rfl (lv_at hl 5 rfl) ?_
      refine lv_iconst (v := 0) hx hb d_l_law_1258 (by decide) ?_
      refine hw_lald hx hb hK hW d_l_law_1259 ?_
      refine lv_iload hx hb d_l_law_1260 (lv_at hl 0 rfl) ?_
      refine lv_i2l hx hb d_l_law_1262 rfl ?_
      refine W.lcmp hx hb d_l_law_1263 ?_
      refine lv_if_eq (tgt := 1269) hx hb d_l_law_1264 (by decide) (fun h187 => ?_) (fun h187 => ?_)
      · replace hF := (if_pos h187).symm.trans hF
        exact law_B1269 l hl0 hLi hx hb hr hlk hml hts hown hK hZ hsz hb0 hX hbl hbA z' N k23 K23 x4 z184 hF _ _ _ _ _ hW hS (lv_sub hl [2, 3, 4, 5, 6] rfl) (by omega) (by omega)
      · replace hF := (if_neg h187).symm.trans hF
        refine lv_iconst (v := 0) hx hb d_l_law_1267 (by decide) ?_
        exact hw_lawret hx hb hr hlk hS hb0 (by omega) (by omega) d_l_law_1268 hF
  · replace hF := (if_neg h185).symm.trans hF
    refine lv_iconst (v := 0) hx hb d_l_law_1250 (by decide) ?_
    exact hw_lawret hx hb hr hlk hS hb0 (by omega) (by omega) d_l_law_1251 hF
set_option maxRecDepth 100000 in
set_option maxHeartbeats 4000000 in
theorem law_B1201 (l : Launch) (hl0 : l.stackTraces = false) {L : Nat → Nat → Nat} {Ar : Nat → ClassId} {D : va_G} {b0 : Nat} (hLi : f_L L b0) {p : Program} {e : Env} {s : State} {m : MethodId} {below : List Frame} {meth : Method} {c : Code} {b xn : Nat} {xs : Nat → Int32} (hx : p.tables.exec = Jvm.exec) (hb : c.code = code) (hr : meth.sig.returnType = ret) (hlk : meth.locks = false) (hml : c.maxLocals = 7) (hts : ∀ w ∈ wt, w.before #[Value.ref b] s = true) (hown : s.vm.findClass "BottleReturnLaw" = some m.cls) (hK : f_K Ar D s) (hZ : f_Z b0 s s.heap) (hsz : b0 ≤ s.heap.size) (hb0 : s.heap.size ≤ b0) (hX : va_X b xn xs s s.heap) (hbl : b < s.heap.size) (hbA : ¬ f_A b0 b) (z' : fST) (N : Nat) (k23 : Int32 × fST → Option (Int32 × fST)) (K23 : ∀ (x4 : Int32) (z : fST), k23 (x4, z) = some (1, z') → f_B p l e room_1 s m #[Value.ref b] below meth c L Ar D b0 7 600000 (lw_Z below #[Value.ref b] s) N 23 [(0, .ref b), (1, .ref (L 0 0)), (2, .ref (L 30 0)), (3, .ref (L 50 0)), (4, .int x4)] [] z) (x4 : Int32) (z : fST) (hF : b_l_law_1201 xn xs k23 x4 z = some (1, z')) : f_B p l e room_1 s m #[Value.ref b] below meth c L Ar D b0 7 600000 (lw_Z below #[Value.ref b] s) (N + 0) 1201 [(0, .ref b), (1, .ref (L 0 0)), (2, .ref (L 30 0)), (3, .ref (L 50 0)), (4, .int x4)] [] z := by
  have hRf : room_1.frames = 11 := rfl
  have hRl : room_1.locals = 404 := rfl
  have hRc : room_1.cells = 601024 := rfl
  have hRs : room_1.slots = 7293034 := rfl
  intro H locs ls cells slots hW hS hl hc hs
  unfold b_l_law_1201 at hF
  refine lv_goto (tgt := 1421) hx hb d_l_law_1201 (by decide) ?_
  exact law_B1421 l hl0 hLi hx hb hr hlk hml hts hown hK hZ hsz hb0 hX hbl hbA z' N k23 K23 x4 z hF _ _ _ _ _ hW hS (lv_sub hl [0, 1, 2, 3, 4] rfl) (by omega) (by omega)
set_option maxRecDepth 100000 in
set_option maxHeartbeats 4000000 in
theorem law_B1136 (l : Launch) (hl0 : l.stackTraces = false) {L : Nat → Nat → Nat} {Ar : Nat → ClassId} {D : va_G} {b0 : Nat} (hLi : f_L L b0) {p : Program} {e : Env} {s : State} {m : MethodId} {below : List Frame} {meth : Method} {c : Code} {b xn : Nat} {xs : Nat → Int32} (hx : p.tables.exec = Jvm.exec) (hb : c.code = code) (hr : meth.sig.returnType = ret) (hlk : meth.locks = false) (hml : c.maxLocals = 7) (hts : ∀ w ∈ wt, w.before #[Value.ref b] s = true) (hown : s.vm.findClass "BottleReturnLaw" = some m.cls) (hK : f_K Ar D s) (hZ : f_Z b0 s s.heap) (hsz : b0 ≤ s.heap.size) (hb0 : s.heap.size ≤ b0) (hX : va_X b xn xs s s.heap) (hbl : b < s.heap.size) (hbA : ¬ f_A b0 b) (z' : fST) (N : Nat) (k23 : Int32 × fST → Option (Int32 × fST)) (K23 : ∀ (x4 : Int32) (z : fST), k23 (x4, z) = some (1, z') → f_B p l e room_1 s m #[Value.ref b] below meth c L Ar D b0 7 600000 (lw_Z below #[Value.ref b] s) N 23 [(0, .ref b), (1, .ref (L 0 0)), (2, .ref (L 30 0)), (3, .ref (L 50 0)), (4, .int x4)] [] z) (x4 : Int32) (z : fST) (hF : b_l_law_1136 xn xs k23 x4 z = some (1, z')) : f_B p l e room_1 s m #[Value.ref b] below meth c L Ar D b0 7 600000 (lw_Z below #[Value.ref b] s) (N + 2) 1136 [(0, .ref b), (1, .ref (L 0 0)), (2, .ref (L 30 0)), (3, .ref (L 50 0)), (4, .int x4)] [] z := by
  have hRf : room_1.frames = 11 := rfl
  have hRl : room_1.locals = 404 := rfl
  have hRc : room_1.cells = 601024 := rfl
  have hRs : room_1.slots = 7293034 := rfl
  intro H locs ls cells slots hW hS hl hc hs
  unfold b_l_law_1136 at hF
  refine lv_aload_n hx hb d_l_law_1136 rfl (lv_at hl 1 rfl) ?_
  refine lv_aload_n hx hb d_l_law_1137 rfl (lv_at hl 0 rfl) ?_
  refine lv_iload hx hb d_l_law_1138 (lv_at hl 4 rfl) ?_
  refine lv_iconst (v := 1) hx hb d_l_law_1140 (by decide) ?_
  refine lv_iadd hx hb d_l_law_1141 ?_
  obtain ⟨g168, hF⟩ := f_gd_some hF
  refine va_sld hx hb hX hbl hbA hS (f_ib_in g168) d_l_law_1142 ?_
  refine lv_aload_n hx hb d_l_law_1143 rfl (lv_at hl 0 rfl) ?_
  refine lv_iload hx hb d_l_law_1144 (lv_at hl 4 rfl) ?_
  refine lv_iconst (v := 2) hx hb d_l_law_1146 (by decide) ?_
  refine lv_iadd hx hb d_l_law_1147 ?_
  obtain ⟨g169, hF⟩ := f_gd_some hF
  refine va_sld hx hb hX hbl hbA hS (f_ib_in g169) d_l_law_1148 ?_
  refine lv_aload_n hx hb d_l_law_1149 rfl (lv_at hl 3 rfl) ?_
  obtain ⟨v170, z170, hc170, hF⟩ := f_bd_some hF
  refine hw_SW (As := [.ref (L 0 0), .int (xs (f_ix (x4 + 1))), .int (xs (f_ix (x4 + 2))), .ref (L 50 0)]) (rest := []) hx hb hml hown hts (c_l_about_ok l hl0 hLi (xs (f_ix (x4 + 1))) (xs (f_ix (x4 + 2)))  _ _ _ hc170) st_l_149 hK hZ hsz hS hW rfl hl.1 (Nat.le_of_ble_eq_true rfl) d_l_law_1150 (by omega) (by omega) (by omega) (by omega) (fun H locs hW hS => ?_)
  refine lv_istore (lv' := [(5, .int v170), (0, .ref b), (1, .ref (L 0 0)), (2, .ref (L 30 0)), (3, .ref (L 50 0)), (4, .int x4)]) hx hb d_l_law_1153 hl (by decide) rfl (fun ls hl => ?_)
  refine lv_aload_n hx hb d_l_law_1155 rfl (lv_at hl 3 rfl) ?_
  refine lv_aload_n hx hb d_l_law_1156 rfl (lv_at hl 1 rfl) ?_
  refine lv_iload hx hb d_l_law_1157 (lv_at hl 5 rfl) ?_
  refine lv_iconst (v := 1) hx hb d_l_law_1159 (by decide) ?_
  refine lv_iadd hx hb d_l_law_1160 ?_
  obtain ⟨g171, hF⟩ := f_gd_some hF
  refine va_sld hx hb hX hbl hbA hS (f_ib_in g171) d_l_law_1161 ?_
  refine lv_aload_n hx hb d_l_law_1162 rfl (lv_at hl 1 rfl) ?_
  refine lv_iload hx hb d_l_law_1163 (lv_at hl 5 rfl) ?_
  refine lv_iconst (v := 2) hx hb d_l_law_1165 (by decide) ?_
  refine lv_iadd hx hb d_l_law_1166 ?_
  obtain ⟨g172, hF⟩ := f_gd_some hF
  refine va_sld hx hb hX hbl hbA hS (f_ib_in g172) d_l_law_1167 ?_
  obtain ⟨v173, z173, hc173, hF⟩ := f_bd_some hF
  refine hw_VR (k := 30) (i := 0) (nk := 1) (As := [.int (xs (f_ix (x4 + 1))), .int (xs (f_ix (x4 + 2)))]) (rest := []) hx hb hml hown hts (c_m_about_ok l hl0 hLi (xs (f_ix (x4 + 1))) (xs (f_ix (x4 + 2)))  _ _ _ hc173) st_l_151 (by decide) rfl (by omega) rfl rfl hK hZ hsz hS hW rfl hl.1 (Nat.le_of_ble_eq_true rfl) d_l_law_1168 (by omega) (by omega) (by omega) (by omega) (fun H locs hW hS => ?_)
  refine lv_istore (lv' := [(6, .int v173), (5, .int v170), (0, .ref b), (1, .ref (L 0 0)), (2, .ref (L 30 0)), (3, .ref (L 50 0)), (4, .int x4)]) hx hb d_l_law_1171 hl (by decide) rfl (fun ls hl => ?_)
  refine lv_aload_n hx hb d_l_law_1173 rfl (lv_at hl 4 rfl) ?_
  obtain ⟨v174, z174, hc174, hF⟩ := f_bd_some hF
  refine hw_VR (k := 30) (i := 0) (nk := 1) (As := []) (rest := []) hx hb hml hown hts (c_m_thrown_ok l hl0 hLi   _ _ _ hc174) st_l_92 (by decide) rfl (by omega) rfl rfl hK hZ hsz hS hW rfl hl.1 (Nat.le_of_ble_eq_true rfl) d_l_law_1174 (by omega) (by omega) (by omega) (by omega) (fun H locs hW hS => ?_)
  refine lv_iload hx hb d_l_law_1177 (lv_at hl 1 rfl) ?_
  refine lv_icmp_eq (tgt := 1184) hx hb d_l_law_1179 (by decide) (fun h175 => ?_) (fun h175 => ?_)
  · replace hF := (if_pos h175).symm.trans hF
    refine lv_iload hx hb d_l_law_1184 (lv_at hl 1 rfl) ?_
    refine lv_if_ne (tgt := 1201) hx hb d_l_law_1186 (by decide) (fun h176 => ?_) (fun h176 => ?_)
    · replace hF := (if_neg h176).symm.trans hF
      exact law_B1201 l hl0 hLi hx hb hr hlk hml hts hown hK hZ hsz hb0 hX hbl hbA z' N k23 K23 x4 z174 hF _ _ _ _ _ hW hS (lv_sub hl [2, 3, 4, 5, 6] rfl) (by omega) (by omega)
    · replace hF := (if_pos h176).symm.trans hF
      refine lv_aload_n hx hb d_l_law_1189 rfl (lv_at hl 5 rfl) ?_
      refine lv_iconst (v := 0) hx hb d_l_law_1190 (by decide) ?_
      refine hw_lald hx hb hK hW d_l_law_1191 ?_
      refine lv_iload hx hb d_l_law_1192 (lv_at hl 0 rfl) ?_
      refine lv_i2l hx hb d_l_law_1194 rfl ?_
      refine W.lcmp hx hb d_l_law_1195 ?_
      refine lv_if_eq (tgt := 1201) hx hb d_l_law_1196 (by decide) (fun h177 => ?_) (fun h177 => ?_)
      · replace hF := (if_pos h177).symm.trans hF
        exact law_B1201 l hl0 hLi hx hb hr hlk hml hts hown hK hZ hsz hb0 hX hbl hbA z' N k23 K23 x4 z174 hF _ _ _ _ _ hW hS (lv_sub hl [2, 3, 4, 5, 6] rfl) (by omega) (by omega)
      · replace hF := (if_neg h177).symm.trans hF
        refine lv_iconst (v := 0) hx hb d_l_law_1199 (by decide) ?_
        exact hw_lawret hx hb hr hlk hS hb0 (by omega) (by omega) d_l_law_1200 hF
  · replace hF := (if_neg h175).symm.trans hF
    refine lv_iconst (v := 0) hx hb d_l_law_1182 (by decide) ?_
    exact hw_lawret hx hb hr hlk hS hb0 (by omega) (by omega) d_l_law_1183 hF
set_option maxRecDepth 100000 in
set_option maxHeartbeats 4000000 in
theorem law_B1133 (l : Launch) (hl0 : l.stackTraces = false) {L : Nat → Nat → Nat} {Ar : Nat → ClassId} {D : va_G} {b0 : Nat} (hLi : f_L L b0) {p : Program} {e : Env} {s : State} {m : MethodId} {below : List Frame} {meth : Method} {c : Code} {b xn : Nat} {xs : Nat → Int32} (hx : p.tables.exec = Jvm.exec) (hb : c.code = code) (hr : meth.sig.returnType = ret) (hlk : meth.locks = false) (hml : c.maxLocals = 7) (hts : ∀ w ∈ wt, w.before #[Value.ref b] s = true) (hown : s.vm.findClass "BottleReturnLaw" = some m.cls) (hK : f_K Ar D s) (hZ : f_Z b0 s s.heap) (hsz : b0 ≤ s.heap.size) (hb0 : s.heap.size ≤ b0) (hX : va_X b xn xs s s.heap) (hbl : b < s.heap.size) (hbA : ¬ f_A b0 b) (z' : fST) (N : Nat) (k23 : Int32 × fST → Option (Int32 × fST)) (K23 : ∀ (x4 : Int32) (z : fST), k23 (x4, z) = some (1, z') → f_B p l e room_1 s m #[Value.ref b] below meth c L Ar D b0 7 600000 (lw_Z below #[Value.ref b] s) N 23 [(0, .ref b), (1, .ref (L 0 0)), (2, .ref (L 30 0)), (3, .ref (L 50 0)), (4, .int x4)] [] z) (x4 : Int32) (z : fST) (hF : b_l_law_1133 xn xs k23 x4 z = some (1, z')) : f_B p l e room_1 s m #[Value.ref b] below meth c L Ar D b0 7 600000 (lw_Z below #[Value.ref b] s) (N + 0) 1133 [(0, .ref b), (1, .ref (L 0 0)), (2, .ref (L 30 0)), (3, .ref (L 50 0)), (4, .int x4)] [] z := by
  have hRf : room_1.frames = 11 := rfl
  have hRl : room_1.locals = 404 := rfl
  have hRc : room_1.cells = 601024 := rfl
  have hRs : room_1.slots = 7293034 := rfl
  intro H locs ls cells slots hW hS hl hc hs
  unfold b_l_law_1133 at hF
  refine lv_goto (tgt := 1421) hx hb d_l_law_1133 (by decide) ?_
  exact law_B1421 l hl0 hLi hx hb hr hlk hml hts hown hK hZ hsz hb0 hX hbl hbA z' N k23 K23 x4 z hF _ _ _ _ _ hW hS (lv_sub hl [0, 1, 2, 3, 4] rfl) (by omega) (by omega)
set_option maxRecDepth 100000 in
set_option maxHeartbeats 4000000 in
theorem law_B1127 (l : Launch) (hl0 : l.stackTraces = false) {L : Nat → Nat → Nat} {Ar : Nat → ClassId} {D : va_G} {b0 : Nat} (hLi : f_L L b0) {p : Program} {e : Env} {s : State} {m : MethodId} {below : List Frame} {meth : Method} {c : Code} {b xn : Nat} {xs : Nat → Int32} (hx : p.tables.exec = Jvm.exec) (hb : c.code = code) (hr : meth.sig.returnType = ret) (hlk : meth.locks = false) (hml : c.maxLocals = 7) (hts : ∀ w ∈ wt, w.before #[Value.ref b] s = true) (hown : s.vm.findClass "BottleReturnLaw" = some m.cls) (hK : f_K Ar D s) (hZ : f_Z b0 s s.heap) (hsz : b0 ≤ s.heap.size) (hb0 : s.heap.size ≤ b0) (hX : va_X b xn xs s s.heap) (hbl : b < s.heap.size) (hbA : ¬ f_A b0 b) (z' : fST) (N : Nat) (k23 : Int32 × fST → Option (Int32 × fST)) (K23 : ∀ (x4 : Int32) (z : fST), k23 (x4, z) = some (1, z') → f_B p l e room_1 s m #[Value.ref b] below meth c L Ar D b0 7 600000 (lw_Z below #[Value.ref b] s) N 23 [(0, .ref b), (1, .ref (L 0 0)), (2, .ref (L 30 0)), (3, .ref (L 50 0)), (4, .int x4)] [] z) (x4 : Int32) (y0 : Int64) (y1 : Int64) (z : fST) (hF : b_l_law_1127 xn xs k23 x4 y0 y1 z = some (1, z')) : f_B p l e room_1 s m #[Value.ref b] below meth c L Ar D b0 7 600000 (lw_Z below #[Value.ref b] s) (N + 0) 1127 [(0, .ref b), (1, .ref (L 0 0)), (2, .ref (L 30 0)), (3, .ref (L 50 0)), (4, .int x4)] [.long y1, .long y0] z := by
  have hRf : room_1.frames = 11 := rfl
  have hRl : room_1.locals = 404 := rfl
  have hRc : room_1.cells = 601024 := rfl
  have hRs : room_1.slots = 7293034 := rfl
  intro H locs ls cells slots hW hS hl hc hs
  unfold b_l_law_1127 at hF
  refine W.lcmp hx hb d_l_law_1127 ?_
  refine lv_if_eq (tgt := 1133) hx hb d_l_law_1128 (by decide) (fun h215 => ?_) (fun h215 => ?_)
  · replace hF := (if_pos h215).symm.trans hF
    exact law_B1133 l hl0 hLi hx hb hr hlk hml hts hown hK hZ hsz hb0 hX hbl hbA z' N k23 K23 x4 z hF _ _ _ _ _ hW hS (lv_sub hl [0, 1, 2, 3, 4] rfl) (by omega) (by omega)
  · replace hF := (if_neg h215).symm.trans hF
    refine lv_iconst (v := 0) hx hb d_l_law_1131 (by decide) ?_
    exact hw_lawret hx hb hr hlk hS hb0 (by omega) (by omega) d_l_law_1132 hF
set_option maxRecDepth 100000 in
set_option maxHeartbeats 4000000 in
theorem law_B1061 (l : Launch) (hl0 : l.stackTraces = false) {L : Nat → Nat → Nat} {Ar : Nat → ClassId} {D : va_G} {b0 : Nat} (hLi : f_L L b0) {p : Program} {e : Env} {s : State} {m : MethodId} {below : List Frame} {meth : Method} {c : Code} {b xn : Nat} {xs : Nat → Int32} (hx : p.tables.exec = Jvm.exec) (hb : c.code = code) (hr : meth.sig.returnType = ret) (hlk : meth.locks = false) (hml : c.maxLocals = 7) (hts : ∀ w ∈ wt, w.before #[Value.ref b] s = true) (hown : s.vm.findClass "BottleReturnLaw" = some m.cls) (hK : f_K Ar D s) (hZ : f_Z b0 s s.heap) (hsz : b0 ≤ s.heap.size) (hb0 : s.heap.size ≤ b0) (hX : va_X b xn xs s s.heap) (hbl : b < s.heap.size) (hbA : ¬ f_A b0 b) (z' : fST) (N : Nat) (k23 : Int32 × fST → Option (Int32 × fST)) (K23 : ∀ (x4 : Int32) (z : fST), k23 (x4, z) = some (1, z') → f_B p l e room_1 s m #[Value.ref b] below meth c L Ar D b0 7 600000 (lw_Z below #[Value.ref b] s) N 23 [(0, .ref b), (1, .ref (L 0 0)), (2, .ref (L 30 0)), (3, .ref (L 50 0)), (4, .int x4)] [] z) (x4 : Int32) (z : fST) (hF : b_l_law_1061 xn xs k23 x4 z = some (1, z')) : f_B p l e room_1 s m #[Value.ref b] below meth c L Ar D b0 7 600000 (lw_Z below #[Value.ref b] s) (N + 2) 1061 [(0, .ref b), (1, .ref (L 0 0)), (2, .ref (L 30 0)), (3, .ref (L 50 0)), (4, .int x4)] [] z := by
  have hRf : room_1.frames = 11 := rfl
  have hRl : room_1.locals = 404 := rfl
  have hRc : room_1.cells = 601024 := rfl
  have hRs : room_1.slots = 7293034 := rfl
  intro H locs ls cells slots hW hS hl hc hs
  unfold b_l_law_1061 at hF
  refine lv_aload_n hx hb d_l_law_1061 rfl (lv_at hl 1 rfl) ?_
  refine lv_aload_n hx hb d_l_law_1062 rfl (lv_at hl 0 rfl) ?_
  refine lv_iload hx hb d_l_law_1063 (lv_at hl 4 rfl) ?_
  refine lv_iconst (v := 1) hx hb d_l_law_1065 (by decide) ?_
  refine lv_iadd hx hb d_l_law_1066 ?_
  obtain ⟨g158, hF⟩ := f_gd_some hF
  refine va_sld hx hb hX hbl hbA hS (f_ib_in g158) d_l_law_1067 ?_
  refine lv_aload_n hx hb d_l_law_1068 rfl (lv_at hl 0 rfl) ?_
  refine lv_iload hx hb d_l_law_1069 (lv_at hl 4 rfl) ?_
  refine lv_iconst (v := 2) hx hb d_l_law_1071 (by decide) ?_
  refine lv_iadd hx hb d_l_law_1072 ?_
  obtain ⟨g159, hF⟩ := f_gd_some hF
  refine va_sld hx hb hX hbl hbA hS (f_ib_in g159) d_l_law_1073 ?_
  refine lv_aload_n hx hb d_l_law_1074 rfl (lv_at hl 3 rfl) ?_
  obtain ⟨v160, z160, hc160, hF⟩ := f_bd_some hF
  refine hw_SW (As := [.ref (L 0 0), .int (xs (f_ix (x4 + 1))), .int (xs (f_ix (x4 + 2))), .ref (L 50 0)]) (rest := []) hx hb hml hown hts (c_l_check_ok l hl0 hLi (xs (f_ix (x4 + 1))) (xs (f_ix (x4 + 2)))  _ _ _ hc160) st_l_146 hK hZ hsz hS hW rfl hl.1 (Nat.le_of_ble_eq_true rfl) d_l_law_1075 (by omega) (by omega) (by omega) (by omega) (fun H locs hW hS => ?_)
  refine lv_istore (lv' := [(5, .int v160), (0, .ref b), (1, .ref (L 0 0)), (2, .ref (L 30 0)), (3, .ref (L 50 0)), (4, .int x4)]) hx hb d_l_law_1078 hl (by decide) rfl (fun ls hl => ?_)
  refine lv_aload_n hx hb d_l_law_1080 rfl (lv_at hl 3 rfl) ?_
  refine lv_aload_n hx hb d_l_law_1081 rfl (lv_at hl 1 rfl) ?_
  refine lv_iload hx hb d_l_law_1082 (lv_at hl 5 rfl) ?_
  refine lv_iconst (v := 1) hx hb d_l_law_1084 (by decide) ?_
  refine lv_iadd hx hb d_l_law_1085 ?_
  obtain ⟨g161, hF⟩ := f_gd_some hF
  refine va_sld hx hb hX hbl hbA hS (f_ib_in g161) d_l_law_1086 ?_
  refine lv_aload_n hx hb d_l_law_1087 rfl (lv_at hl 1 rfl) ?_
  refine lv_iload hx hb d_l_law_1088 (lv_at hl 5 rfl) ?_
  refine lv_iconst (v := 2) hx hb d_l_law_1090 (by decide) ?_
  refine lv_iadd hx hb d_l_law_1091 ?_
  obtain ⟨g162, hF⟩ := f_gd_some hF
  refine va_sld hx hb hX hbl hbA hS (f_ib_in g162) d_l_law_1092 ?_
  obtain ⟨v163, z163, hc163, hF⟩ := f_bd_some hF
  refine hw_VR (k := 30) (i := 0) (nk := 1) (As := [.int (xs (f_ix (x4 + 1))), .int (xs (f_ix (x4 + 2)))]) (rest := []) hx hb hml hown hts (c_m_check_ok l hl0 hLi (xs (f_ix (x4 + 1))) (xs (f_ix (x4 + 2)))  _ _ _ hc163) st_l_148 (by decide) rfl (by omega) rfl rfl hK hZ hsz hS hW rfl hl.1 (Nat.le_of_ble_eq_true rfl) d_l_law_1093 (by omega) (by omega) (by omega) (by omega) (fun H locs hW hS => ?_)
  refine lv_istore (lv' := [(6, .int v163), (5, .int v160), (0, .ref b), (1, .ref (L 0 0)), (2, .ref (L 30 0)), (3, .ref (L 50 0)), (4, .int x4)]) hx hb d_l_law_1096 hl (by decide) rfl (fun ls hl => ?_)
  refine lv_aload_n hx hb d_l_law_1098 rfl (lv_at hl 4 rfl) ?_
  obtain ⟨v164, z164, hc164, hF⟩ := f_bd_some hF
  refine hw_VR (k := 30) (i := 0) (nk := 1) (As := []) (rest := []) hx hb hml hown hts (c_m_thrown_ok l hl0 hLi   _ _ _ hc164) st_l_92 (by decide) rfl (by omega) rfl rfl hK hZ hsz hS hW rfl hl.1 (Nat.le_of_ble_eq_true rfl) d_l_law_1099 (by omega) (by omega) (by omega) (by omega) (fun H locs hW hS => ?_)
  refine lv_iload hx hb d_l_law_1102 (lv_at hl 1 rfl) ?_
  refine lv_icmp_eq (tgt := 1109) hx hb d_l_law_1104 (by decide) (fun h165 => ?_) (fun h165 => ?_)
  · replace hF := (if_pos h165).symm.trans hF
    refine lv_iload hx hb d_l_law_1109 (lv_at hl 1 rfl) ?_
    refine lv_if_ne (tgt := 1133) hx hb d_l_law_1111 (by decide) (fun h166 => ?_) (fun h166 => ?_)
    · replace hF := (if_neg h166).symm.trans hF
      exact law_B1133 l hl0 hLi hx hb hr hlk hml hts hown hK hZ hsz hb0 hX hbl hbA z' N k23 K23 x4 z164 hF _ _ _ _ _ hW hS (lv_sub hl [2, 3, 4, 5, 6] rfl) (by omega) (by omega)
    · replace hF := (if_pos h166).symm.trans hF
      refine lv_aload_n hx hb d_l_law_1114 rfl (lv_at hl 5 rfl) ?_
      refine lv_iconst (v := 0) hx hb d_l_law_1115 (by decide) ?_
      refine hw_lald hx hb hK hW d_l_law_1116 ?_
      refine lv_iload hx hb d_l_law_1117 (lv_at hl 0 rfl) ?_
      refine lv_if_eq (tgt := 1126) hx hb d_l_law_1119 (by decide) (fun h167 => ?_) (fun h167 => ?_)
      · replace hF := (if_pos h167).symm.trans hF
        refine lv_lconst (v := 0) hx hb d_l_law_1126 (by decide) ?_
        exact law_B1127 l hl0 hLi hx hb hr hlk hml hts hown hK hZ hsz hb0 hX hbl hbA z' N k23 K23 x4 (f_gO z164) 0 z164 hF _ _ _ _ _ hW hS (lv_sub hl [2, 3, 4, 5, 6] rfl) (by omega) (by omega)
      · replace hF := (if_neg h167).symm.trans hF
        refine lv_lconst (v := 1) hx hb d_l_law_1122 (by decide) ?_
        refine lv_goto (tgt := 1127) hx hb d_l_law_1123 (by decide) ?_
        exact law_B1127 l hl0 hLi hx hb hr hlk hml hts hown hK hZ hsz hb0 hX hbl hbA z' N k23 K23 x4 (f_gO z164) 1 z164 hF _ _ _ _ _ hW hS (lv_sub hl [2, 3, 4, 5, 6] rfl) (by omega) (by omega)
  · replace hF := (if_neg h165).symm.trans hF
    refine lv_iconst (v := 0) hx hb d_l_law_1107 (by decide) ?_
    exact hw_lawret hx hb hr hlk hS hb0 (by omega) (by omega) d_l_law_1108 hF
set_option maxRecDepth 100000 in
set_option maxHeartbeats 4000000 in
theorem law_B1048 (l : Launch) (hl0 : l.stackTraces = false) {L : Nat → Nat → Nat} {Ar : Nat → ClassId} {D : va_G} {b0 : Nat} (hLi : f_L L b0) {p : Program} {e : Env} {s : State} {m : MethodId} {below : List Frame} {meth : Method} {c : Code} {b xn : Nat} {xs : Nat → Int32} (hx : p.tables.exec = Jvm.exec) (hb : c.code = code) (hr : meth.sig.returnType = ret) (hlk : meth.locks = false) (hml : c.maxLocals = 7) (hts : ∀ w ∈ wt, w.before #[Value.ref b] s = true) (hown : s.vm.findClass "BottleReturnLaw" = some m.cls) (hK : f_K Ar D s) (hZ : f_Z b0 s s.heap) (hsz : b0 ≤ s.heap.size) (hb0 : s.heap.size ≤ b0) (hX : va_X b xn xs s s.heap) (hbl : b < s.heap.size) (hbA : ¬ f_A b0 b) (z' : fST) (N : Nat) (k23 : Int32 × fST → Option (Int32 × fST)) (K23 : ∀ (x4 : Int32) (z : fST), k23 (x4, z) = some (1, z') → f_B p l e room_1 s m #[Value.ref b] below meth c L Ar D b0 7 600000 (lw_Z below #[Value.ref b] s) N 23 [(0, .ref b), (1, .ref (L 0 0)), (2, .ref (L 30 0)), (3, .ref (L 50 0)), (4, .int x4)] [] z) (x4 : Int32) (z : fST) (hF : b_l_law_1048 xn xs k23 x4 z = some (1, z')) : f_B p l e room_1 s m #[Value.ref b] below meth c L Ar D b0 7 600000 (lw_Z below #[Value.ref b] s) (N + 0) 1048 [(0, .ref b), (1, .ref (L 0 0)), (2, .ref (L 30 0)), (3, .ref (L 50 0)), (4, .int x4)] [] z := by
  have hRf : room_1.frames = 11 := rfl
  have hRl : room_1.locals = 404 := rfl
  have hRc : room_1.cells = 601024 := rfl
  have hRs : room_1.slots = 7293034 := rfl
  intro H locs ls cells slots hW hS hl hc hs
  unfold b_l_law_1048 at hF
  refine lv_aload_n hx hb d_l_law_1048 rfl (lv_at hl 1 rfl) ?_
  obtain ⟨v155, z155, hc155, hF⟩ := f_bd_some hF
  refine hw_VR (k := 0) (i := 0) (nk := 1) (As := []) (rest := []) hx hb hml hown hts (c_b_power_ok l hl0 hLi   _ _ _ hc155) st_l_142 (by decide) rfl (by omega) rfl rfl hK hZ hsz hS hW rfl hl.1 (Nat.le_of_ble_eq_true rfl) d_l_law_1049 (by omega) (by omega) (by omega) (by omega) (fun H locs hW hS => ?_)
  refine lv_aload_n hx hb d_l_law_1052 rfl (lv_at hl 2 rfl) ?_
  obtain ⟨v156, z156, hc156, hF⟩ := f_bd_some hF
  refine hw_VR (k := 30) (i := 0) (nk := 1) (As := []) (rest := [.int v155]) hx hb hml hown hts (c_m_power_ok l hl0 hLi   _ _ _ hc156) st_l_145 (by decide) rfl (by omega) rfl rfl hK hZ hsz hS hW rfl hl.1 (Nat.le_of_ble_eq_true rfl) d_l_law_1053 (by omega) (by omega) (by omega) (by omega) (fun H locs hW hS => ?_)
  refine lv_icmp_eq (tgt := 1421) hx hb d_l_law_1056 (by decide) (fun h157 => ?_) (fun h157 => ?_)
  · replace hF := (if_pos h157).symm.trans hF
    exact law_B1421 l hl0 hLi hx hb hr hlk hml hts hown hK hZ hsz hb0 hX hbl hbA z' N k23 K23 x4 z156 hF _ _ _ _ _ hW hS (lv_sub hl [0, 1, 2, 3, 4] rfl) (by omega) (by omega)
  · replace hF := (if_neg h157).symm.trans hF
    refine lv_iconst (v := 0) hx hb d_l_law_1059 (by decide) ?_
    exact hw_lawret hx hb hr hlk hS hb0 (by omega) (by omega) d_l_law_1060 hF
set_option maxRecDepth 100000 in
set_option maxHeartbeats 4000000 in
theorem law_B1012 (l : Launch) (hl0 : l.stackTraces = false) {L : Nat → Nat → Nat} {Ar : Nat → ClassId} {D : va_G} {b0 : Nat} (hLi : f_L L b0) {p : Program} {e : Env} {s : State} {m : MethodId} {below : List Frame} {meth : Method} {c : Code} {b xn : Nat} {xs : Nat → Int32} (hx : p.tables.exec = Jvm.exec) (hb : c.code = code) (hr : meth.sig.returnType = ret) (hlk : meth.locks = false) (hml : c.maxLocals = 7) (hts : ∀ w ∈ wt, w.before #[Value.ref b] s = true) (hown : s.vm.findClass "BottleReturnLaw" = some m.cls) (hK : f_K Ar D s) (hZ : f_Z b0 s s.heap) (hsz : b0 ≤ s.heap.size) (hb0 : s.heap.size ≤ b0) (hX : va_X b xn xs s s.heap) (hbl : b < s.heap.size) (hbA : ¬ f_A b0 b) (z' : fST) (N : Nat) (k23 : Int32 × fST → Option (Int32 × fST)) (K23 : ∀ (x4 : Int32) (z : fST), k23 (x4, z) = some (1, z') → f_B p l e room_1 s m #[Value.ref b] below meth c L Ar D b0 7 600000 (lw_Z below #[Value.ref b] s) N 23 [(0, .ref b), (1, .ref (L 0 0)), (2, .ref (L 30 0)), (3, .ref (L 50 0)), (4, .int x4)] [] z) (x4 : Int32) (z : fST) (hF : b_l_law_1012 xn xs k23 x4 z = some (1, z')) : f_B p l e room_1 s m #[Value.ref b] below meth c L Ar D b0 7 600000 (lw_Z below #[Value.ref b] s) (N + 1) 1012 [(0, .ref b), (1, .ref (L 0 0)), (2, .ref (L 30 0)), (3, .ref (L 50 0)), (4, .int x4)] [] z := by
  have hRf : room_1.frames = 11 := rfl
  have hRl : room_1.locals = 404 := rfl
  have hRc : room_1.cells = 601024 := rfl
  have hRs : room_1.slots = 7293034 := rfl
  intro H locs ls cells slots hW hS hl hc hs
  unfold b_l_law_1012 at hF
  refine lv_aload_n hx hb d_l_law_1012 rfl (lv_at hl 1 rfl) ?_
  refine lv_aload_n hx hb d_l_law_1013 rfl (lv_at hl 0 rfl) ?_
  refine lv_iload hx hb d_l_law_1014 (lv_at hl 4 rfl) ?_
  refine lv_iconst (v := 1) hx hb d_l_law_1016 (by decide) ?_
  refine lv_iadd hx hb d_l_law_1017 ?_
  obtain ⟨g149, hF⟩ := f_gd_some hF
  refine va_sld hx hb hX hbl hbA hS (f_ib_in g149) d_l_law_1018 ?_
  obtain ⟨v150, z150, hc150, hF⟩ := f_bd_some hF
  refine hw_SW (As := [.ref (L 0 0), .int (xs (f_ix (x4 + 1)))]) (rest := []) hx hb hml hown hts (c_l_cut_ok l hl0 hLi (xs (f_ix (x4 + 1)))  _ _ _ hc150) st_l_138 hK hZ hsz hS hW rfl hl.1 (Nat.le_of_ble_eq_true rfl) d_l_law_1019 (by omega) (by omega) (by omega) (by omega) (fun H locs hW hS => ?_)
  refine lv_istore (lv' := [(5, .int v150), (0, .ref b), (1, .ref (L 0 0)), (2, .ref (L 30 0)), (3, .ref (L 50 0)), (4, .int x4)]) hx hb d_l_law_1022 hl (by decide) rfl (fun ls hl => ?_)
  refine lv_aload_n hx hb d_l_law_1024 rfl (lv_at hl 3 rfl) ?_
  refine lv_aload_n hx hb d_l_law_1025 rfl (lv_at hl 1 rfl) ?_
  refine lv_iload hx hb d_l_law_1026 (lv_at hl 5 rfl) ?_
  refine lv_iconst (v := 1) hx hb d_l_law_1028 (by decide) ?_
  refine lv_iadd hx hb d_l_law_1029 ?_
  obtain ⟨g151, hF⟩ := f_gd_some hF
  refine va_sld hx hb hX hbl hbA hS (f_ib_in g151) d_l_law_1030 ?_
  obtain ⟨v152, z152, hc152, hF⟩ := f_bd_some hF
  refine hw_VR (k := 30) (i := 0) (nk := 1) (As := [.int (xs (f_ix (x4 + 1)))]) (rest := []) hx hb hml hown hts (c_m_cut_ok l hl0 hLi (xs (f_ix (x4 + 1)))  _ _ _ hc152) st_l_141 (by decide) rfl (by omega) rfl rfl hK hZ hsz hS hW rfl hl.1 (Nat.le_of_ble_eq_true rfl) d_l_law_1031 (by omega) (by omega) (by omega) (by omega) (fun H locs hW hS => ?_)
  refine lv_aload_n hx hb d_l_law_1034 rfl (lv_at hl 3 rfl) ?_
  obtain ⟨v153, z153, hc153, hF⟩ := f_bd_some hF
  refine hw_VR (k := 30) (i := 0) (nk := 1) (As := []) (rest := []) hx hb hml hown hts (c_m_thrown_ok l hl0 hLi   _ _ _ hc153) st_l_92 (by decide) rfl (by omega) rfl rfl hK hZ hsz hS hW rfl hl.1 (Nat.le_of_ble_eq_true rfl) d_l_law_1035 (by omega) (by omega) (by omega) (by omega) (fun H locs hW hS => ?_)
  refine lv_iload hx hb d_l_law_1038 (lv_at hl 0 rfl) ?_
  refine lv_icmp_eq (tgt := 1045) hx hb d_l_law_1040 (by decide) (fun h154 => ?_) (fun h154 => ?_)
  · replace hF := (if_pos h154).symm.trans hF
    refine lv_goto (tgt := 1421) hx hb d_l_law_1045 (by decide) ?_
    exact law_B1421 l hl0 hLi hx hb hr hlk hml hts hown hK hZ hsz hb0 hX hbl hbA z' N k23 K23 x4 z153 hF _ _ _ _ _ hW hS (lv_sub hl [1, 2, 3, 4, 5] rfl) (by omega) (by omega)
  · replace hF := (if_neg h154).symm.trans hF
    refine lv_iconst (v := 0) hx hb d_l_law_1043 (by decide) ?_
    exact hw_lawret hx hb hr hlk hS hb0 (by omega) (by omega) d_l_law_1044 hF
set_option maxRecDepth 100000 in
set_option maxHeartbeats 4000000 in
theorem law_B1009 (l : Launch) (hl0 : l.stackTraces = false) {L : Nat → Nat → Nat} {Ar : Nat → ClassId} {D : va_G} {b0 : Nat} (hLi : f_L L b0) {p : Program} {e : Env} {s : State} {m : MethodId} {below : List Frame} {meth : Method} {c : Code} {b xn : Nat} {xs : Nat → Int32} (hx : p.tables.exec = Jvm.exec) (hb : c.code = code) (hr : meth.sig.returnType = ret) (hlk : meth.locks = false) (hml : c.maxLocals = 7) (hts : ∀ w ∈ wt, w.before #[Value.ref b] s = true) (hown : s.vm.findClass "BottleReturnLaw" = some m.cls) (hK : f_K Ar D s) (hZ : f_Z b0 s s.heap) (hsz : b0 ≤ s.heap.size) (hb0 : s.heap.size ≤ b0) (hX : va_X b xn xs s s.heap) (hbl : b < s.heap.size) (hbA : ¬ f_A b0 b) (z' : fST) (N : Nat) (k23 : Int32 × fST → Option (Int32 × fST)) (K23 : ∀ (x4 : Int32) (z : fST), k23 (x4, z) = some (1, z') → f_B p l e room_1 s m #[Value.ref b] below meth c L Ar D b0 7 600000 (lw_Z below #[Value.ref b] s) N 23 [(0, .ref b), (1, .ref (L 0 0)), (2, .ref (L 30 0)), (3, .ref (L 50 0)), (4, .int x4)] [] z) (x4 : Int32) (z : fST) (hF : b_l_law_1009 xn xs k23 x4 z = some (1, z')) : f_B p l e room_1 s m #[Value.ref b] below meth c L Ar D b0 7 600000 (lw_Z below #[Value.ref b] s) (N + 0) 1009 [(0, .ref b), (1, .ref (L 0 0)), (2, .ref (L 30 0)), (3, .ref (L 50 0)), (4, .int x4)] [] z := by
  have hRf : room_1.frames = 11 := rfl
  have hRl : room_1.locals = 404 := rfl
  have hRc : room_1.cells = 601024 := rfl
  have hRs : room_1.slots = 7293034 := rfl
  intro H locs ls cells slots hW hS hl hc hs
  unfold b_l_law_1009 at hF
  refine lv_goto (tgt := 1421) hx hb d_l_law_1009 (by decide) ?_
  exact law_B1421 l hl0 hLi hx hb hr hlk hml hts hown hK hZ hsz hb0 hX hbl hbA z' N k23 K23 x4 z hF _ _ _ _ _ hW hS (lv_sub hl [0, 1, 2, 3, 4] rfl) (by omega) (by omega)
set_option maxRecDepth 100000 in
set_option maxHeartbeats 4000000 in
theorem law_B1003 (l : Launch) (hl0 : l.stackTraces = false) {L : Nat → Nat → Nat} {Ar : Nat → ClassId} {D : va_G} {b0 : Nat} (hLi : f_L L b0) {p : Program} {e : Env} {s : State} {m : MethodId} {below : List Frame} {meth : Method} {c : Code} {b xn : Nat} {xs : Nat → Int32} (hx : p.tables.exec = Jvm.exec) (hb : c.code = code) (hr : meth.sig.returnType = ret) (hlk : meth.locks = false) (hml : c.maxLocals = 7) (hts : ∀ w ∈ wt, w.before #[Value.ref b] s = true) (hown : s.vm.findClass "BottleReturnLaw" = some m.cls) (hK : f_K Ar D s) (hZ : f_Z b0 s s.heap) (hsz : b0 ≤ s.heap.size) (hb0 : s.heap.size ≤ b0) (hX : va_X b xn xs s s.heap) (hbl : b < s.heap.size) (hbA : ¬ f_A b0 b) (z' : fST) (N : Nat) (k23 : Int32 × fST → Option (Int32 × fST)) (K23 : ∀ (x4 : Int32) (z : fST), k23 (x4, z) = some (1, z') → f_B p l e room_1 s m #[Value.ref b] below meth c L Ar D b0 7 600000 (lw_Z below #[Value.ref b] s) N 23 [(0, .ref b), (1, .ref (L 0 0)), (2, .ref (L 30 0)), (3, .ref (L 50 0)), (4, .int x4)] [] z) (x4 : Int32) (y0 : Int64) (y1 : Int64) (z : fST) (hF : b_l_law_1003 xn xs k23 x4 y0 y1 z = some (1, z')) : f_B p l e room_1 s m #[Value.ref b] below meth c L Ar D b0 7 600000 (lw_Z below #[Value.ref b] s) (N + 0) 1003 [(0, .ref b), (1, .ref (L 0 0)), (2, .ref (L 30 0)), (3, .ref (L 50 0)), (4, .int x4)] [.long y1, .long y0] z := by
  have hRf : room_1.frames = 11 := rfl
  have hRl : room_1.locals = 404 := rfl
  have hRc : room_1.cells = 601024 := rfl
  have hRs : room_1.slots = 7293034 := rfl
  intro H locs ls cells slots hW hS hl hc hs
  unfold b_l_law_1003 at hF
  refine W.lcmp hx hb d_l_law_1003 ?_
  refine lv_if_eq (tgt := 1009) hx hb d_l_law_1004 (by decide) (fun h214 => ?_) (fun h214 => ?_)
  · replace hF := (if_pos h214).symm.trans hF
    exact law_B1009 l hl0 hLi hx hb hr hlk hml hts hown hK hZ hsz hb0 hX hbl hbA z' N k23 K23 x4 z hF _ _ _ _ _ hW hS (lv_sub hl [0, 1, 2, 3, 4] rfl) (by omega) (by omega)
  · replace hF := (if_neg h214).symm.trans hF
    refine lv_iconst (v := 0) hx hb d_l_law_1007 (by decide) ?_
    exact hw_lawret hx hb hr hlk hS hb0 (by omega) (by omega) d_l_law_1008 hF
set_option maxRecDepth 100000 in
set_option maxHeartbeats 4000000 in
theorem law_B961 (l : Launch) (hl0 : l.stackTraces = false) {L : Nat → Nat → Nat} {Ar : Nat → ClassId} {D : va_G} {b0 : Nat} (hLi : f_L L b0) {p : Program} {e : Env} {s : State} {m : MethodId} {below : List Frame} {meth : Method} {c : Code} {b xn : Nat} {xs : Nat → Int32} (hx : p.tables.exec = Jvm.exec) (hb : c.code = code) (hr : meth.sig.returnType = ret) (hlk : meth.locks = false) (hml : c.maxLocals = 7) (hts : ∀ w ∈ wt, w.before #[Value.ref b] s = true) (hown : s.vm.findClass "BottleReturnLaw" = some m.cls) (hK : f_K Ar D s) (hZ : f_Z b0 s s.heap) (hsz : b0 ≤ s.heap.size) (hb0 : s.heap.size ≤ b0) (hX : va_X b xn xs s s.heap) (hbl : b < s.heap.size) (hbA : ¬ f_A b0 b) (z' : fST) (N : Nat) (k23 : Int32 × fST → Option (Int32 × fST)) (K23 : ∀ (x4 : Int32) (z : fST), k23 (x4, z) = some (1, z') → f_B p l e room_1 s m #[Value.ref b] below meth c L Ar D b0 7 600000 (lw_Z below #[Value.ref b] s) N 23 [(0, .ref b), (1, .ref (L 0 0)), (2, .ref (L 30 0)), (3, .ref (L 50 0)), (4, .int x4)] [] z) (x4 : Int32) (z : fST) (hF : b_l_law_961 xn xs k23 x4 z = some (1, z')) : f_B p l e room_1 s m #[Value.ref b] below meth c L Ar D b0 7 600000 (lw_Z below #[Value.ref b] s) (N + 2) 961 [(0, .ref b), (1, .ref (L 0 0)), (2, .ref (L 30 0)), (3, .ref (L 50 0)), (4, .int x4)] [] z := by
  have hRf : room_1.frames = 11 := rfl
  have hRl : room_1.locals = 404 := rfl
  have hRc : room_1.cells = 601024 := rfl
  have hRs : room_1.slots = 7293034 := rfl
  intro H locs ls cells slots hW hS hl hc hs
  unfold b_l_law_961 at hF
  refine lv_aload_n hx hb d_l_law_961 rfl (lv_at hl 1 rfl) ?_
  refine lv_aload_n hx hb d_l_law_962 rfl (lv_at hl 3 rfl) ?_
  obtain ⟨v143, z143, hc143, hF⟩ := f_bd_some hF
  refine hw_SW (As := [.ref (L 0 0), .ref (L 50 0)]) (rest := []) hx hb hml hown hts (c_l_service_ok l hl0 hLi   _ _ _ hc143) st_l_135 hK hZ hsz hS hW rfl hl.1 (Nat.le_of_ble_eq_true rfl) d_l_law_963 (by omega) (by omega) (by omega) (by omega) (fun H locs hW hS => ?_)
  refine lv_istore (lv' := [(5, .int v143), (0, .ref b), (1, .ref (L 0 0)), (2, .ref (L 30 0)), (3, .ref (L 50 0)), (4, .int x4)]) hx hb d_l_law_966 hl (by decide) rfl (fun ls hl => ?_)
  refine lv_aload_n hx hb d_l_law_968 rfl (lv_at hl 3 rfl) ?_
  obtain ⟨v144, z144, hc144, hF⟩ := f_bd_some hF
  refine hw_VR (k := 30) (i := 0) (nk := 1) (As := []) (rest := []) hx hb hml hown hts (c_m_service_ok l hl0 hLi   _ _ _ hc144) st_l_137 (by decide) rfl (by omega) rfl rfl hK hZ hsz hS hW rfl hl.1 (Nat.le_of_ble_eq_true rfl) d_l_law_969 (by omega) (by omega) (by omega) (by omega) (fun H locs hW hS => ?_)
  refine lv_istore (lv' := [(6, .int v144), (5, .int v143), (0, .ref b), (1, .ref (L 0 0)), (2, .ref (L 30 0)), (3, .ref (L 50 0)), (4, .int x4)]) hx hb d_l_law_972 hl (by decide) rfl (fun ls hl => ?_)
  refine lv_aload_n hx hb d_l_law_974 rfl (lv_at hl 4 rfl) ?_
  obtain ⟨v145, z145, hc145, hF⟩ := f_bd_some hF
  refine hw_VR (k := 30) (i := 0) (nk := 1) (As := []) (rest := []) hx hb hml hown hts (c_m_thrown_ok l hl0 hLi   _ _ _ hc145) st_l_92 (by decide) rfl (by omega) rfl rfl hK hZ hsz hS hW rfl hl.1 (Nat.le_of_ble_eq_true rfl) d_l_law_975 (by omega) (by omega) (by omega) (by omega) (fun H locs hW hS => ?_)
  refine lv_iload hx hb d_l_law_978 (lv_at hl 1 rfl) ?_
  refine lv_icmp_eq (tgt := 985) hx hb d_l_law_980 (by decide) (fun h146 => ?_) (fun h146 => ?_)
  · replace hF := (if_pos h146).symm.trans hF
    refine lv_iload hx hb d_l_law_985 (lv_at hl 1 rfl) ?_
    refine lv_if_ne (tgt := 1009) hx hb d_l_law_987 (by decide) (fun h147 => ?_) (fun h147 => ?_)
    · replace hF := (if_neg h147).symm.trans hF
      exact law_B1009 l hl0 hLi hx hb hr hlk hml hts hown hK hZ hsz hb0 hX hbl hbA z' N k23 K23 x4 z145 hF _ _ _ _ _ hW hS (lv_sub hl [2, 3, 4, 5, 6] rfl) (by omega) (by omega)
    · replace hF := (if_pos h147).symm.trans hF
      refine lv_aload_n hx hb d_l_law_990 rfl (lv_at hl 5 rfl) ?_
      refine lv_iconst (v := 0) hx hb d_l_law_991 (by decide) ?_
      refine hw_lald hx hb hK hW d_l_law_992 ?_
      refine lv_iload hx hb d_l_law_993 (lv_at hl 0 rfl) ?_
      refine lv_if_eq (tgt := 1002) hx hb d_l_law_995 (by decide) (fun h148 => ?_) (fun h148 => ?_)
      · replace hF := (if_pos h148).symm.trans hF
        refine lv_lconst (v := 0) hx hb d_l_law_1002 (by decide) ?_
        exact law_B1003 l hl0 hLi hx hb hr hlk hml hts hown hK hZ hsz hb0 hX hbl hbA z' N k23 K23 x4 (f_gO z145) 0 z145 hF _ _ _ _ _ hW hS (lv_sub hl [2, 3, 4, 5, 6] rfl) (by omega) (by omega)
      · replace hF := (if_neg h148).symm.trans hF
        refine lv_lconst (v := 1) hx hb d_l_law_998 (by decide) ?_
        refine lv_goto (tgt := 1003) hx hb d_l_law_999 (by decide) ?_
        exact law_B1003 l hl0 hLi hx hb hr hlk hml hts hown hK hZ hsz hb0 hX hbl hbA z' N k23 K23 x4 (f_gO z145) 1 z145 hF _ _ _ _ _ hW hS (lv_sub hl [2, 3, 4, 5, 6] rfl) (by omega) (by omega)
  · replace hF := (if_neg h146).symm.trans hF
    refine lv_iconst (v := 0) hx hb d_l_law_983 (by decide) ?_
    exact hw_lawret hx hb hr hlk hS hb0 (by omega) (by omega) d_l_law_984 hF
set_option maxRecDepth 100000 in
set_option maxHeartbeats 4000000 in
theorem law_B958 (l : Launch) (hl0 : l.stackTraces = false) {L : Nat → Nat → Nat} {Ar : Nat → ClassId} {D : va_G} {b0 : Nat} (hLi : f_L L b0) {p : Program} {e : Env} {s : State} {m : MethodId} {below : List Frame} {meth : Method} {c : Code} {b xn : Nat} {xs : Nat → Int32} (hx : p.tables.exec = Jvm.exec) (hb : c.code = code) (hr : meth.sig.returnType = ret) (hlk : meth.locks = false) (hml : c.maxLocals = 7) (hts : ∀ w ∈ wt, w.before #[Value.ref b] s = true) (hown : s.vm.findClass "BottleReturnLaw" = some m.cls) (hK : f_K Ar D s) (hZ : f_Z b0 s s.heap) (hsz : b0 ≤ s.heap.size) (hb0 : s.heap.size ≤ b0) (hX : va_X b xn xs s s.heap) (hbl : b < s.heap.size) (hbA : ¬ f_A b0 b) (z' : fST) (N : Nat) (k23 : Int32 × fST → Option (Int32 × fST)) (K23 : ∀ (x4 : Int32) (z : fST), k23 (x4, z) = some (1, z') → f_B p l e room_1 s m #[Value.ref b] below meth c L Ar D b0 7 600000 (lw_Z below #[Value.ref b] s) N 23 [(0, .ref b), (1, .ref (L 0 0)), (2, .ref (L 30 0)), (3, .ref (L 50 0)), (4, .int x4)] [] z) (x4 : Int32) (z : fST) (hF : b_l_law_958 xn xs k23 x4 z = some (1, z')) : f_B p l e room_1 s m #[Value.ref b] below meth c L Ar D b0 7 600000 (lw_Z below #[Value.ref b] s) (N + 0) 958 [(0, .ref b), (1, .ref (L 0 0)), (2, .ref (L 30 0)), (3, .ref (L 50 0)), (4, .int x4)] [] z := by
  have hRf : room_1.frames = 11 := rfl
  have hRl : room_1.locals = 404 := rfl
  have hRc : room_1.cells = 601024 := rfl
  have hRs : room_1.slots = 7293034 := rfl
  intro H locs ls cells slots hW hS hl hc hs
  unfold b_l_law_958 at hF
  refine lv_goto (tgt := 1421) hx hb d_l_law_958 (by decide) ?_
  exact law_B1421 l hl0 hLi hx hb hr hlk hml hts hown hK hZ hsz hb0 hX hbl hbA z' N k23 K23 x4 z hF _ _ _ _ _ hW hS (lv_sub hl [0, 1, 2, 3, 4] rfl) (by omega) (by omega)
set_option maxRecDepth 100000 in
set_option maxHeartbeats 4000000 in
theorem law_B893 (l : Launch) (hl0 : l.stackTraces = false) {L : Nat → Nat → Nat} {Ar : Nat → ClassId} {D : va_G} {b0 : Nat} (hLi : f_L L b0) {p : Program} {e : Env} {s : State} {m : MethodId} {below : List Frame} {meth : Method} {c : Code} {b xn : Nat} {xs : Nat → Int32} (hx : p.tables.exec = Jvm.exec) (hb : c.code = code) (hr : meth.sig.returnType = ret) (hlk : meth.locks = false) (hml : c.maxLocals = 7) (hts : ∀ w ∈ wt, w.before #[Value.ref b] s = true) (hown : s.vm.findClass "BottleReturnLaw" = some m.cls) (hK : f_K Ar D s) (hZ : f_Z b0 s s.heap) (hsz : b0 ≤ s.heap.size) (hb0 : s.heap.size ≤ b0) (hX : va_X b xn xs s s.heap) (hbl : b < s.heap.size) (hbA : ¬ f_A b0 b) (z' : fST) (N : Nat) (k23 : Int32 × fST → Option (Int32 × fST)) (K23 : ∀ (x4 : Int32) (z : fST), k23 (x4, z) = some (1, z') → f_B p l e room_1 s m #[Value.ref b] below meth c L Ar D b0 7 600000 (lw_Z below #[Value.ref b] s) N 23 [(0, .ref b), (1, .ref (L 0 0)), (2, .ref (L 30 0)), (3, .ref (L 50 0)), (4, .int x4)] [] z) (x4 : Int32) (z : fST) (hF : b_l_law_893 xn xs k23 x4 z = some (1, z')) : f_B p l e room_1 s m #[Value.ref b] below meth c L Ar D b0 7 600000 (lw_Z below #[Value.ref b] s) (N + 3) 893 [(0, .ref b), (1, .ref (L 0 0)), (2, .ref (L 30 0)), (3, .ref (L 50 0)), (4, .int x4)] [] z := by
  have hRf : room_1.frames = 11 := rfl
  have hRl : room_1.locals = 404 := rfl
  have hRc : room_1.cells = 601024 := rfl
  have hRs : room_1.slots = 7293034 := rfl
  intro H locs ls cells slots hW hS hl hc hs
  unfold b_l_law_893 at hF
  refine lv_aload_n hx hb d_l_law_893 rfl (lv_at hl 1 rfl) ?_
  refine lv_aload_n hx hb d_l_law_894 rfl (lv_at hl 0 rfl) ?_
  refine lv_iload hx hb d_l_law_895 (lv_at hl 4 rfl) ?_
  refine lv_iconst (v := 1) hx hb d_l_law_897 (by decide) ?_
  refine lv_iadd hx hb d_l_law_898 ?_
  obtain ⟨g133, hF⟩ := f_gd_some hF
  refine va_sld hx hb hX hbl hbA hS (f_ib_in g133) d_l_law_899 ?_
  refine lv_aload_n hx hb d_l_law_900 rfl (lv_at hl 0 rfl) ?_
  refine lv_iload hx hb d_l_law_901 (lv_at hl 4 rfl) ?_
  refine lv_iconst (v := 2) hx hb d_l_law_903 (by decide) ?_
  refine lv_iadd hx hb d_l_law_904 ?_
  obtain ⟨g134, hF⟩ := f_gd_some hF
  refine va_sld hx hb hX hbl hbA hS (f_ib_in g134) d_l_law_905 ?_
  refine lv_aload_n hx hb d_l_law_906 rfl (lv_at hl 3 rfl) ?_
  obtain ⟨v135, z135, hc135, hF⟩ := f_bd_some hF
  refine hw_SW (As := [.ref (L 0 0), .int (xs (f_ix (x4 + 1))), .int (xs (f_ix (x4 + 2))), .ref (L 50 0)]) (rest := []) hx hb hml hown hts (c_l_empty_ok l hl0 hLi (xs (f_ix (x4 + 1))) (xs (f_ix (x4 + 2)))  _ _ _ hc135) st_l_131 hK hZ hsz hS hW rfl hl.1 (Nat.le_of_ble_eq_true rfl) d_l_law_907 (by omega) (by omega) (by omega) (by omega) (fun H locs hW hS => ?_)
  refine lv_istore (lv' := [(5, .int v135), (0, .ref b), (1, .ref (L 0 0)), (2, .ref (L 30 0)), (3, .ref (L 50 0)), (4, .int x4)]) hx hb d_l_law_910 hl (by decide) rfl (fun ls hl => ?_)
  refine lv_aload_n hx hb d_l_law_912 rfl (lv_at hl 3 rfl) ?_
  refine lv_aload_n hx hb d_l_law_913 rfl (lv_at hl 1 rfl) ?_
  refine lv_iload hx hb d_l_law_914 (lv_at hl 5 rfl) ?_
  refine lv_iconst (v := 1) hx hb d_l_law_916 (by decide) ?_
  refine lv_iadd hx hb d_l_law_917 ?_
  obtain ⟨g136, hF⟩ := f_gd_some hF
  refine va_sld hx hb hX hbl hbA hS (f_ib_in g136) d_l_law_918 ?_
  refine lv_aload_n hx hb d_l_law_919 rfl (lv_at hl 1 rfl) ?_
  refine lv_iload hx hb d_l_law_920 (lv_at hl 5 rfl) ?_
  refine lv_iconst (v := 2) hx hb d_l_law_922 (by decide) ?_
  refine lv_iadd hx hb d_l_law_923 ?_
  obtain ⟨g137, hF⟩ := f_gd_some hF
  refine va_sld hx hb hX hbl hbA hS (f_ib_in g137) d_l_law_924 ?_
  obtain ⟨v138, z138, hc138, hF⟩ := f_bd_some hF
  refine hw_VR (k := 30) (i := 0) (nk := 1) (As := [.int (xs (f_ix (x4 + 1))), .int (xs (f_ix (x4 + 2)))]) (rest := []) hx hb hml hown hts (c_m_empty_ok l hl0 hLi (xs (f_ix (x4 + 1))) (xs (f_ix (x4 + 2)))  _ _ _ hc138) st_l_134 (by decide) rfl (by omega) rfl rfl hK hZ hsz hS hW rfl hl.1 (Nat.le_of_ble_eq_true rfl) d_l_law_925 (by omega) (by omega) (by omega) (by omega) (fun H locs hW hS => ?_)
  refine lv_istore (lv' := [(6, .int v138), (5, .int v135), (0, .ref b), (1, .ref (L 0 0)), (2, .ref (L 30 0)), (3, .ref (L 50 0)), (4, .int x4)]) hx hb d_l_law_928 hl (by decide) rfl (fun ls hl => ?_)
  refine lv_aload_n hx hb d_l_law_930 rfl (lv_at hl 4 rfl) ?_
  obtain ⟨v139, z139, hc139, hF⟩ := f_bd_some hF
  refine hw_VR (k := 30) (i := 0) (nk := 1) (As := []) (rest := []) hx hb hml hown hts (c_m_thrown_ok l hl0 hLi   _ _ _ hc139) st_l_92 (by decide) rfl (by omega) rfl rfl hK hZ hsz hS hW rfl hl.1 (Nat.le_of_ble_eq_true rfl) d_l_law_931 (by omega) (by omega) (by omega) (by omega) (fun H locs hW hS => ?_)
  refine lv_iload hx hb d_l_law_934 (lv_at hl 1 rfl) ?_
  refine lv_icmp_eq (tgt := 941) hx hb d_l_law_936 (by decide) (fun h140 => ?_) (fun h140 => ?_)
  · replace hF := (if_pos h140).symm.trans hF
    refine lv_iload hx hb d_l_law_941 (lv_at hl 1 rfl) ?_
    refine lv_if_ne (tgt := 958) hx hb d_l_law_943 (by decide) (fun h141 => ?_) (fun h141 => ?_)
    · replace hF := (if_neg h141).symm.trans hF
      exact law_B958 l hl0 hLi hx hb hr hlk hml hts hown hK hZ hsz hb0 hX hbl hbA z' N k23 K23 x4 z139 hF _ _ _ _ _ hW hS (lv_sub hl [2, 3, 4, 5, 6] rfl) (by omega) (by omega)
    · replace hF := (if_pos h141).symm.trans hF
      refine lv_aload_n hx hb d_l_law_946 rfl (lv_at hl 5 rfl) ?_
      refine lv_iconst (v := 0) hx hb d_l_law_947 (by decide) ?_
      refine hw_lald hx hb hK hW d_l_law_948 ?_
      refine lv_iload hx hb d_l_law_949 (lv_at hl 0 rfl) ?_
      refine lv_i2l hx hb d_l_law_951 rfl ?_
      refine W.lcmp hx hb d_l_law_952 ?_
      refine lv_if_eq (tgt := 958) hx hb d_l_law_953 (by decide) (fun h142 => ?_) (fun h142 => ?_)
      · replace hF := (if_pos h142).symm.trans hF
        exact law_B958 l hl0 hLi hx hb hr hlk hml hts hown hK hZ hsz hb0 hX hbl hbA z' N k23 K23 x4 z139 hF _ _ _ _ _ hW hS (lv_sub hl [2, 3, 4, 5, 6] rfl) (by omega) (by omega)
      · replace hF := (if_neg h142).symm.trans hF
        refine lv_iconst (v := 0) hx hb d_l_law_956 (by decide) ?_
        exact hw_lawret hx hb hr hlk hS hb0 (by omega) (by omega) d_l_law_957 hF
  · replace hF := (if_neg h140).symm.trans hF
    refine lv_iconst (v := 0) hx hb d_l_law_939 (by decide) ?_
    exact hw_lawret hx hb hr hlk hS hb0 (by omega) (by omega) d_l_law_940 hF
set_option maxRecDepth 100000 in
set_option maxHeartbeats 4000000 in
theorem law_B890 (l : Launch) (hl0 : l.stackTraces = false) {L : Nat → Nat → Nat} {Ar : Nat → ClassId} {D : va_G} {b0 : Nat} (hLi : f_L L b0) {p : Program} {e : Env} {s : State} {m : MethodId} {below : List Frame} {meth : Method} {c : Code} {b xn : Nat} {xs : Nat → Int32} (hx : p.tables.exec = Jvm.exec) (hb : c.code = code) (hr : meth.sig.returnType = ret) (hlk : meth.locks = false) (hml : c.maxLocals = 7) (hts : ∀ w ∈ wt, w.before #[Value.ref b] s = true) (hown : s.vm.findClass "BottleReturnLaw" = some m.cls) (hK : f_K Ar D s) (hZ : f_Z b0 s s.heap) (hsz : b0 ≤ s.heap.size) (hb0 : s.heap.size ≤ b0) (hX : va_X b xn xs s s.heap) (hbl : b < s.heap.size) (hbA : ¬ f_A b0 b) (z' : fST) (N : Nat) (k23 : Int32 × fST → Option (Int32 × fST)) (K23 : ∀ (x4 : Int32) (z : fST), k23 (x4, z) = some (1, z') → f_B p l e room_1 s m #[Value.ref b] below meth c L Ar D b0 7 600000 (lw_Z below #[Value.ref b] s) N 23 [(0, .ref b), (1, .ref (L 0 0)), (2, .ref (L 30 0)), (3, .ref (L 50 0)), (4, .int x4)] [] z) (x4 : Int32) (z : fST) (hF : b_l_law_890 xn xs k23 x4 z = some (1, z')) : f_B p l e room_1 s m #[Value.ref b] below meth c L Ar D b0 7 600000 (lw_Z below #[Value.ref b] s) (N + 0) 890 [(0, .ref b), (1, .ref (L 0 0)), (2, .ref (L 30 0)), (3, .ref (L 50 0)), (4, .int x4)] [] z := by
  have hRf : room_1.frames = 11 := rfl
  have hRl : room_1.locals = 404 := rfl
  have hRc : room_1.cells = 601024 := rfl
  have hRs : room_1.slots = 7293034 := rfl
  intro H locs ls cells slots hW hS hl hc hs
  unfold b_l_law_890 at hF
  refine lv_goto (tgt := 1421) hx hb d_l_law_890 (by decide) ?_
  exact law_B1421 l hl0 hLi hx hb hr hlk hml hts hown hK hZ hsz hb0 hX hbl hbA z' N k23 K23 x4 z hF _ _ _ _ _ hW hS (lv_sub hl [0, 1, 2, 3, 4] rfl) (by omega) (by omega)
set_option maxRecDepth 100000 in
set_option maxHeartbeats 4000000 in
theorem law_B849 (l : Launch) (hl0 : l.stackTraces = false) {L : Nat → Nat → Nat} {Ar : Nat → ClassId} {D : va_G} {b0 : Nat} (hLi : f_L L b0) {p : Program} {e : Env} {s : State} {m : MethodId} {below : List Frame} {meth : Method} {c : Code} {b xn : Nat} {xs : Nat → Int32} (hx : p.tables.exec = Jvm.exec) (hb : c.code = code) (hr : meth.sig.returnType = ret) (hlk : meth.locks = false) (hml : c.maxLocals = 7) (hts : ∀ w ∈ wt, w.before #[Value.ref b] s = true) (hown : s.vm.findClass "BottleReturnLaw" = some m.cls) (hK : f_K Ar D s) (hZ : f_Z b0 s s.heap) (hsz : b0 ≤ s.heap.size) (hb0 : s.heap.size ≤ b0) (hX : va_X b xn xs s s.heap) (hbl : b < s.heap.size) (hbA : ¬ f_A b0 b) (z' : fST) (N : Nat) (k23 : Int32 × fST → Option (Int32 × fST)) (K23 : ∀ (x4 : Int32) (z : fST), k23 (x4, z) = some (1, z') → f_B p l e room_1 s m #[Value.ref b] below meth c L Ar D b0 7 600000 (lw_Z below #[Value.ref b] s) N 23 [(0, .ref b), (1, .ref (L 0 0)), (2, .ref (L 30 0)), (3, .ref (L 50 0)), (4, .int x4)] [] z) (x4 : Int32) (z : fST) (hF : b_l_law_849 xn xs k23 x4 z = some (1, z')) : f_B p l e room_1 s m #[Value.ref b] below meth c L Ar D b0 7 600000 (lw_Z below #[Value.ref b] s) (N + 1) 849 [(0, .ref b), (1, .ref (L 0 0)), (2, .ref (L 30 0)), (3, .ref (L 50 0)), (4, .int x4)] [] z := by
  have hRf : room_1.frames = 11 := rfl
  have hRl : room_1.locals = 404 := rfl
  have hRc : room_1.cells = 601024 := rfl
  have hRs : room_1.slots = 7293034 := rfl
  intro H locs ls cells slots hW hS hl hc hs
  unfold b_l_law_849 at hF
  refine lv_aload_n hx hb d_l_law_849 rfl (lv_at hl 1 rfl) ?_
  refine lv_aload_n hx hb d_l_law_850 rfl (lv_at hl 3 rfl) ?_
  obtain ⟨v127, z127, hc127, hF⟩ := f_bd_some hF
  refine hw_SW (As := [.ref (L 0 0), .ref (L 50 0)]) (rest := []) hx hb hml hown hts (c_l_clear_ok l hl0 hLi   _ _ _ hc127) st_l_128 hK hZ hsz hS hW rfl hl.1 (Nat.le_of_ble_eq_true rfl) d_l_law_851 (by omega) (by omega) (by omega) (by omega) (fun H locs hW hS => ?_)
  refine lv_istore (lv' := [(5, .int v127), (0, .ref b), (1, .ref (L 0 0)), (2, .ref (L 30 0)), (3, .ref (L 50 0)), (4, .int x4)]) hx hb d_l_law_854 hl (by decide) rfl (fun ls hl => ?_)
  refine lv_aload_n hx hb d_l_law_856 rfl (lv_at hl 3 rfl) ?_
  obtain ⟨v128, z128, hc128, hF⟩ := f_bd_some hF
  refine hw_VR (k := 30) (i := 0) (nk := 1) (As := []) (rest := []) hx hb hml hown hts (c_m_clear_ok l hl0 hLi   _ _ _ hc128) st_l_130 (by decide) rfl (by omega) rfl rfl hK hZ hsz hS hW rfl hl.1 (Nat.le_of_ble_eq_true rfl) d_l_law_857 (by omega) (by omega) (by omega) (by omega) (fun H locs hW hS => ?_)
  refine lv_istore (lv' := [(6, .int v128), (5, .int v127), (0, .ref b), (1, .ref (L 0 0)), (2, .ref (L 30 0)), (3, .ref (L 50 0)), (4, .int x4)]) hx hb d_l_law_860 hl (by decide) rfl (fun ls hl => ?_)
  refine lv_aload_n hx hb d_l_law_862 rfl (lv_at hl 4 rfl) ?_
  obtain ⟨v129, z129, hc129, hF⟩ := f_bd_some hF
  refine hw_VR (k := 30) (i := 0) (nk := 1) (As := []) (rest := []) hx hb hml hown hts (c_m_thrown_ok l hl0 hLi   _ _ _ hc129) st_l_92 (by decide) rfl (by omega) rfl rfl hK hZ hsz hS hW rfl hl.1 (Nat.le_of_ble_eq_true rfl) d_l_law_863 (by omega) (by omega) (by omega) (by omega) (fun H locs hW hS => ?_)
  refine lv_iload hx hb d_l_law_866 (lv_at hl 1 rfl) ?_
  refine lv_icmp_eq (tgt := 873) hx hb d_l_law_868 (by decide) (fun h130 => ?_) (fun h130 => ?_)
  · replace hF := (if_pos h130).symm.trans hF
    refine lv_iload hx hb d_l_law_873 (lv_at hl 1 rfl) ?_
    refine lv_if_ne (tgt := 890) hx hb d_l_law_875 (by decide) (fun h131 => ?_) (fun h131 => ?_)
    · replace hF := (if_neg h131).symm.trans hF
      exact law_B890 l hl0 hLi hx hb hr hlk hml hts hown hK hZ hsz hb0 hX hbl hbA z' N k23 K23 x4 z129 hF _ _ _ _ _ hW hS (lv_sub hl [2, 3, 4, 5, 6] rfl) (by omega) (by omega)
    · replace hF := (if_pos h131).symm.trans hF
      refine lv_aload_n hx hb d_l_law_878 rfl (lv_at hl 5 rfl) ?_
      refine lv_iconst (v := 0) hx hb d_l_law_879 (by decide) ?_
      refine hw_lald hx hb hK hW d_l_law_880 ?_
      refine lv_iload hx hb d_l_law_881 (lv_at hl 0 rfl) ?_
      refine lv_i2l hx hb d_l_law_883 rfl ?_
      refine W.lcmp hx hb d_l_law_884 ?_
      refine lv_if_eq (tgt := 890) hx hb d_l_law_885 (by decide) (fun h132 => ?_) (fun h132 => ?_)
      · replace hF := (if_pos h132).symm.trans hF
        exact law_B890 l hl0 hLi hx hb hr hlk hml hts hown hK hZ hsz hb0 hX hbl hbA z' N k23 K23 x4 z129 hF _ _ _ _ _ hW hS (lv_sub hl [2, 3, 4, 5, 6] rfl) (by omega) (by omega)
      · replace hF := (if_neg h132).symm.trans hF
        refine lv_iconst (v := 0) hx hb d_l_law_888 (by decide) ?_
        exact hw_lawret hx hb hr hlk hS hb0 (by omega) (by omega) d_l_law_889 hF
  · replace hF := (if_neg h130).symm.trans hF
    refine lv_iconst (v := 0) hx hb d_l_law_871 (by decide) ?_
    exact hw_lawret hx hb hr hlk hS hb0 (by omega) (by omega) d_l_law_872 hF
set_option maxRecDepth 100000 in
set_option maxHeartbeats 4000000 in
theorem law_B846 (l : Launch) (hl0 : l.stackTraces = false) {L : Nat → Nat → Nat} {Ar : Nat → ClassId} {D : va_G} {b0 : Nat} (hLi : f_L L b0) {p : Program} {e : Env} {s : State} {m : MethodId} {below : List Frame} {meth : Method} {c : Code} {b xn : Nat} {xs : Nat → Int32} (hx : p.tables.exec = Jvm.exec) (hb : c.code = code) (hr : meth.sig.returnType = ret) (hlk : meth.locks = false) (hml : c.maxLocals = 7) (hts : ∀ w ∈ wt, w.before #[Value.ref b] s = true) (hown : s.vm.findClass "BottleReturnLaw" = some m.cls) (hK : f_K Ar D s) (hZ : f_Z b0 s s.heap) (hsz : b0 ≤ s.heap.size) (hb0 : s.heap.size ≤ b0) (hX : va_X b xn xs s s.heap) (hbl : b < s.heap.size) (hbA : ¬ f_A b0 b) (z' : fST) (N : Nat) (k23 : Int32 × fST → Option (Int32 × fST)) (K23 : ∀ (x4 : Int32) (z : fST), k23 (x4, z) = some (1, z') → f_B p l e room_1 s m #[Value.ref b] below meth c L Ar D b0 7 600000 (lw_Z below #[Value.ref b] s) N 23 [(0, .ref b), (1, .ref (L 0 0)), (2, .ref (L 30 0)), (3, .ref (L 50 0)), (4, .int x4)] [] z) (x4 : Int32) (z : fST) (hF : b_l_law_846 xn xs k23 x4 z = some (1, z')) : f_B p l e room_1 s m #[Value.ref b] below meth c L Ar D b0 7 600000 (lw_Z below #[Value.ref b] s) (N + 0) 846 [(0, .ref b), (1, .ref (L 0 0)), (2, .ref (L 30 0)), (3, .ref (L 50 0)), (4, .int x4)] [] z := by
  have hRf : room_1.frames = 11 := rfl
  have hRl : room_1.locals = 404 := rfl
  have hRc : room_1.cells = 601024 := rfl
  have hRs : room_1.slots = 7293034 := rfl
  intro H locs ls cells slots hW hS hl hc hs
  unfold b_l_law_846 at hF
  refine lv_goto (tgt := 1421) hx hb d_l_law_846 (by decide) ?_
  exact law_B1421 l hl0 hLi hx hb hr hlk hml hts hown hK hZ hsz hb0 hX hbl hbA z' N k23 K23 x4 z hF _ _ _ _ _ hW hS (lv_sub hl [0, 1, 2, 3, 4] rfl) (by omega) (by omega)
set_option maxRecDepth 100000 in
set_option maxHeartbeats 4000000 in
theorem law_B793 (l : Launch) (hl0 : l.stackTraces = false) {L : Nat → Nat → Nat} {Ar : Nat → ClassId} {D : va_G} {b0 : Nat} (hLi : f_L L b0) {p : Program} {e : Env} {s : State} {m : MethodId} {below : List Frame} {meth : Method} {c : Code} {b xn : Nat} {xs : Nat → Int32} (hx : p.tables.exec = Jvm.exec) (hb : c.code = code) (hr : meth.sig.returnType = ret) (hlk : meth.locks = false) (hml : c.maxLocals = 7) (hts : ∀ w ∈ wt, w.before #[Value.ref b] s = true) (hown : s.vm.findClass "BottleReturnLaw" = some m.cls) (hK : f_K Ar D s) (hZ : f_Z b0 s s.heap) (hsz : b0 ≤ s.heap.size) (hb0 : s.heap.size ≤ b0) (hX : va_X b xn xs s s.heap) (hbl : b < s.heap.size) (hbA : ¬ f_A b0 b) (z' : fST) (N : Nat) (k23 : Int32 × fST → Option (Int32 × fST)) (K23 : ∀ (x4 : Int32) (z : fST), k23 (x4, z) = some (1, z') → f_B p l e room_1 s m #[Value.ref b] below meth c L Ar D b0 7 600000 (lw_Z below #[Value.ref b] s) N 23 [(0, .ref b), (1, .ref (L 0 0)), (2, .ref (L 30 0)), (3, .ref (L 50 0)), (4, .int x4)] [] z) (x4 : Int32) (z : fST) (hF : b_l_law_793 xn xs k23 x4 z = some (1, z')) : f_B p l e room_1 s m #[Value.ref b] below meth c L Ar D b0 7 600000 (lw_Z below #[Value.ref b] s) (N + 2) 793 [(0, .ref b), (1, .ref (L 0 0)), (2, .ref (L 30 0)), (3, .ref (L 50 0)), (4, .int x4)] [] z := by
  have hRf : room_1.frames = 11 := rfl
  have hRl : room_1.locals = 404 := rfl
  have hRc : room_1.cells = 601024 := rfl
  have hRs : room_1.slots = 7293034 := rfl
  intro H locs ls cells slots hW hS hl hc hs
  unfold b_l_law_793 at hF
  refine lv_aload_n hx hb d_l_law_793 rfl (lv_at hl 1 rfl) ?_
  refine lv_aload_n hx hb d_l_law_794 rfl (lv_at hl 0 rfl) ?_
  refine lv_iload hx hb d_l_law_795 (lv_at hl 4 rfl) ?_
  refine lv_iconst (v := 1) hx hb d_l_law_797 (by decide) ?_
  refine lv_iadd hx hb d_l_law_798 ?_
  obtain ⟨g119, hF⟩ := f_gd_some hF
  refine va_sld hx hb hX hbl hbA hS (f_ib_in g119) d_l_law_799 ?_
  refine lv_aload_n hx hb d_l_law_800 rfl (lv_at hl 3 rfl) ?_
  obtain ⟨v120, z120, hc120, hF⟩ := f_bd_some hF
  refine hw_SW (As := [.ref (L 0 0), .int (xs (f_ix (x4 + 1))), .ref (L 50 0)]) (rest := []) hx hb hml hown hts (c_l_redeem_ok l hl0 hLi (xs (f_ix (x4 + 1)))  _ _ _ hc120) st_l_125 hK hZ hsz hS hW rfl hl.1 (Nat.le_of_ble_eq_true rfl) d_l_law_801 (by omega) (by omega) (by omega) (by omega) (fun H locs hW hS => ?_)
  refine lv_istore (lv' := [(5, .int v120), (0, .ref b), (1, .ref (L 0 0)), (2, .ref (L 30 0)), (3, .ref (L 50 0)), (4, .int x4)]) hx hb d_l_law_804 hl (by decide) rfl (fun ls hl => ?_)
  refine lv_aload_n hx hb d_l_law_806 rfl (lv_at hl 3 rfl) ?_
  refine lv_aload_n hx hb d_l_law_807 rfl (lv_at hl 1 rfl) ?_
  refine lv_iload hx hb d_l_law_808 (lv_at hl 5 rfl) ?_
  refine lv_iconst (v := 1) hx hb d_l_law_810 (by decide) ?_
  refine lv_iadd hx hb d_l_law_811 ?_
  obtain ⟨g121, hF⟩ := f_gd_some hF
  refine va_sld hx hb hX hbl hbA hS (f_ib_in g121) d_l_law_812 ?_
  obtain ⟨v122, z122, hc122, hF⟩ := f_bd_some hF
  refine hw_VR (k := 30) (i := 0) (nk := 1) (As := [.int (xs (f_ix (x4 + 1)))]) (rest := []) hx hb hml hown hts (c_m_redeem_ok l hl0 hLi (xs (f_ix (x4 + 1)))  _ _ _ hc122) st_l_127 (by decide) rfl (by omega) rfl rfl hK hZ hsz hS hW rfl hl.1 (Nat.le_of_ble_eq_true rfl) d_l_law_813 (by omega) (by omega) (by omega) (by omega) (fun H locs hW hS => ?_)
  refine lv_istore (lv' := [(6, .int v122), (5, .int v120), (0, .ref b), (1, .ref (L 0 0)), (2, .ref (L 30 0)), (3, .ref (L 50 0)), (4, .int x4)]) hx hb d_l_law_816 hl (by decide) rfl (fun ls hl => ?_)
  refine lv_aload_n hx hb d_l_law_818 rfl (lv_at hl 4 rfl) ?_
  obtain ⟨v123, z123, hc123, hF⟩ := f_bd_some hF
  refine hw_VR (k := 30) (i := 0) (nk := 1) (As := []) (rest := []) hx hb hml hown hts (c_m_thrown_ok l hl0 hLi   _ _ _ hc123) st_l_92 (by decide) rfl (by omega) rfl rfl hK hZ hsz hS hW rfl hl.1 (Nat.le_of_ble_eq_true rfl) d_l_law_819 (by omega) (by omega) (by omega) (by omega) (fun H locs hW hS => ?_)
  refine lv_iload hx hb d_l_law_822 (lv_at hl 1 rfl) ?_
  refine lv_icmp_eq (tgt := 829) hx hb d_l_law_824 (by decide) (fun h124 => ?_) (fun h124 => ?_)
  · replace hF := (if_pos h124).symm.trans hF
    refine lv_iload hx hb d_l_law_829 (lv_at hl 1 rfl) ?_
    refine lv_if_ne (tgt := 846) hx hb d_l_law_831 (by decide) (fun h125 => ?_) (fun h125 => ?_)
    · replace hF := (if_neg h125).symm.trans hF
      exact law_B846 l hl0 hLi hx hb hr hlk hml hts hown hK hZ hsz hb0 hX hbl hbA z' N k23 K23 x4 z123 hF _ _ _ _ _ hW hS (lv_sub hl [2, 3, 4, 5, 6] rfl) (by omega) (by omega)
    · replace hF := (if_pos h125).symm.trans hF
      refine lv_aload_n hx hb d_l_law_834 rfl (lv_at hl 5 rfl) ?_
      refine lv_iconst (v := 0) hx hb d_l_law_835 (by decide) ?_
      refine hw_lald hx hb hK hW d_l_law_836 ?_
      refine lv_iload hx hb d_l_law_837 (lv_at hl 0 rfl) ?_
      refine lv_i2l hx hb d_l_law_839 rfl ?_
      refine W.lcmp hx hb d_l_law_840 ?_
      refine lv_if_eq (tgt := 846) hx hb d_l_law_841 (by decide) (fun h126 => ?_) (fun h126 => ?_)
      · replace hF := (if_pos h126).symm.trans hF
        exact law_B846 l hl0 hLi hx hb hr hlk hml hts hown hK hZ hsz hb0 hX hbl hbA z' N k23 K23 x4 z123 hF _ _ _ _ _ hW hS (lv_sub hl [2, 3, 4, 5, 6] rfl) (by omega) (by omega)
      · replace hF := (if_neg h126).symm.trans hF
        refine lv_iconst (v := 0) hx hb d_l_law_844 (by decide) ?_
        exact hw_lawret hx hb hr hlk hS hb0 (by omega) (by omega) d_l_law_845 hF
  · replace hF := (if_neg h124).symm.trans hF
    refine lv_iconst (v := 0) hx hb d_l_law_827 (by decide) ?_
    exact hw_lawret hx hb hr hlk hS hb0 (by omega) (by omega) d_l_law_828 hF
set_option maxRecDepth 100000 in
set_option maxHeartbeats 4000000 in
theorem law_B790 (l : Launch) (hl0 : l.stackTraces = false) {L : Nat → Nat → Nat} {Ar : Nat → ClassId} {D : va_G} {b0 : Nat} (hLi : f_L L b0) {p : Program} {e : Env} {s : State} {m : MethodId} {below : List Frame} {meth : Method} {c : Code} {b xn : Nat} {xs : Nat → Int32} (hx : p.tables.exec = Jvm.exec) (hb : c.code = code) (hr : meth.sig.returnType = ret) (hlk : meth.locks = false) (hml : c.maxLocals = 7) (hts : ∀ w ∈ wt, w.before #[Value.ref b] s = true) (hown : s.vm.findClass "BottleReturnLaw" = some m.cls) (hK : f_K Ar D s) (hZ : f_Z b0 s s.heap) (hsz : b0 ≤ s.heap.size) (hb0 : s.heap.size ≤ b0) (hX : va_X b xn xs s s.heap) (hbl : b < s.heap.size) (hbA : ¬ f_A b0 b) (z' : fST) (N : Nat) (k23 : Int32 × fST → Option (Int32 × fST)) (K23 : ∀ (x4 : Int32) (z : fST), k23 (x4, z) = some (1, z') → f_B p l e room_1 s m #[Value.ref b] below meth c L Ar D b0 7 600000 (lw_Z below #[Value.ref b] s) N 23 [(0, .ref b), (1, .ref (L 0 0)), (2, .ref (L 30 0)), (3, .ref (L 50 0)), (4, .int x4)] [] z) (x4 : Int32) (z : fST) (hF : b_l_law_790 xn xs k23 x4 z = some (1, z')) : f_B p l e room_1 s m #[Value.ref b] below meth c L Ar D b0 7 600000 (lw_Z below #[Value.ref b] s) (N + 0) 790 [(0, .ref b), (1, .ref (L 0 0)), (2, .ref (L 30 0)), (3, .ref (L 50 0)), (4, .int x4)] [] z := by
  have hRf : room_1.frames = 11 := rfl
  have hRl : room_1.locals = 404 := rfl
  have hRc : room_1.cells = 601024 := rfl
  have hRs : room_1.slots = 7293034 := rfl
  intro H locs ls cells slots hW hS hl hc hs
  unfold b_l_law_790 at hF
  refine lv_goto (tgt := 1421) hx hb d_l_law_790 (by decide) ?_
  exact law_B1421 l hl0 hLi hx hb hr hlk hml hts hown hK hZ hsz hb0 hX hbl hbA z' N k23 K23 x4 z hF _ _ _ _ _ hW hS (lv_sub hl [0, 1, 2, 3, 4] rfl) (by omega) (by omega)
set_option maxRecDepth 100000 in
set_option maxHeartbeats 4000000 in
theorem law_B749 (l : Launch) (hl0 : l.stackTraces = false) {L : Nat → Nat → Nat} {Ar : Nat → ClassId} {D : va_G} {b0 : Nat} (hLi : f_L L b0) {p : Program} {e : Env} {s : State} {m : MethodId} {below : List Frame} {meth : Method} {c : Code} {b xn : Nat} {xs : Nat → Int32} (hx : p.tables.exec = Jvm.exec) (hb : c.code = code) (hr : meth.sig.returnType = ret) (hlk : meth.locks = false) (hml : c.maxLocals = 7) (hts : ∀ w ∈ wt, w.before #[Value.ref b] s = true) (hown : s.vm.findClass "BottleReturnLaw" = some m.cls) (hK : f_K Ar D s) (hZ : f_Z b0 s s.heap) (hsz : b0 ≤ s.heap.size) (hb0 : s.heap.size ≤ b0) (hX : va_X b xn xs s s.heap) (hbl : b < s.heap.size) (hbA : ¬ f_A b0 b) (z' : fST) (N : Nat) (k23 : Int32 × fST → Option (Int32 × fST)) (K23 : ∀ (x4 : Int32) (z : fST), k23 (x4, z) = some (1, z') → f_B p l e room_1 s m #[Value.ref b] below meth c L Ar D b0 7 600000 (lw_Z below #[Value.ref b] s) N 23 [(0, .ref b), (1, .ref (L 0 0)), (2, .ref (L 30 0)), (3, .ref (L 50 0)), (4, .int x4)] [] z) (x4 : Int32) (z : fST) (hF : b_l_law_749 xn xs k23 x4 z = some (1, z')) : f_B p l e room_1 s m #[Value.ref b] below meth c L Ar D b0 7 600000 (lw_Z below #[Value.ref b] s) (N + 1) 749 [(0, .ref b), (1, .ref (L 0 0)), (2, .ref (L 30 0)), (3, .ref (L 50 0)), (4, .int x4)] [] z := by
  have hRf : room_1.frames = 11 := rfl
  have hRl : room_1.locals = 404 := rfl
  have hRc : room_1.cells = 601024 := rfl
  have hRs : room_1.slots = 7293034 := rfl
  intro H locs ls cells slots hW hS hl hc hs
  unfold b_l_law_749 at hF
  refine lv_aload_n hx hb d_l_law_749 rfl (lv_at hl 1 rfl) ?_
  refine lv_aload_n hx hb d_l_law_750 rfl (lv_at hl 3 rfl) ?_
  obtain ⟨v113, z113, hc113, hF⟩ := f_bd_some hF
  refine hw_SW (As := [.ref (L 0 0), .ref (L 50 0)]) (rest := []) hx hb hml hown hts (c_l_give_ok l hl0 hLi   _ _ _ hc113) st_l_122 hK hZ hsz hS hW rfl hl.1 (Nat.le_of_ble_eq_true rfl) d_l_law_751 (by omega) (by omega) (by omega) (by omega) (fun H locs hW hS => ?_)
  refine lv_istore (lv' := [(5, .int v113), (0, .ref b), (1, .ref (L 0 0)), (2, .ref (L 30 0)), (3, .ref (L 50 0)), (4, .int x4)]) hx hb d_l_law_754 hl (by decide) rfl (fun ls hl => ?_)
  refine lv_aload_n hx hb d_l_law_756 rfl (lv_at hl 3 rfl) ?_
  obtain ⟨v114, z114, hc114, hF⟩ := f_bd_some hF
  refine hw_VR (k := 30) (i := 0) (nk := 1) (As := []) (rest := []) hx hb hml hown hts (c_m_give_ok l hl0 hLi   _ _ _ hc114) st_l_124 (by decide) rfl (by omega) rfl rfl hK hZ hsz hS hW rfl hl.1 (Nat.le_of_ble_eq_true rfl) d_l_law_757 (by omega) (by omega) (by omega) (by omega) (fun H locs hW hS => ?_)
  refine lv_istore (lv' := [(6, .int v114), (5, .int v113), (0, .ref b), (1, .ref (L 0 0)), (2, .ref (L 30 0)), (3, .ref (L 50 0)), (4, .int x4)]) hx hb d_l_law_760 hl (by decide) rfl (fun ls hl => ?_)
  refine lv_aload_n hx hb d_l_law_762 rfl (lv_at hl 4 rfl) ?_
  obtain ⟨v115, z115, hc115, hF⟩ := f_bd_some hF
  refine hw_VR (k := 30) (i := 0) (nk := 1) (As := []) (rest := []) hx hb hml hown hts (c_m_thrown_ok l hl0 hLi   _ _ _ hc115) st_l_92 (by decide) rfl (by omega) rfl rfl hK hZ hsz hS hW rfl hl.1 (Nat.le_of_ble_eq_true rfl) d_l_law_763 (by omega) (by omega) (by omega) (by omega) (fun H locs hW hS => ?_)
  refine lv_iload hx hb d_l_law_766 (lv_at hl 1 rfl) ?_
  refine lv_icmp_eq (tgt := 773) hx hb d_l_law_768 (by decide) (fun h116 => ?_) (fun h116 => ?_)
  · replace hF := (if_pos h116).symm.trans hF
    refine lv_iload hx hb d_l_law_773 (lv_at hl 1 rfl) ?_
    refine lv_if_ne (tgt := 790) hx hb d_l_law_775 (by decide) (fun h117 => ?_) (fun h117 => ?_)
    · replace hF := (if_neg h117).symm.trans hF
      exact law_B790 l hl0 hLi hx hb hr hlk hml hts hown hK hZ hsz hb0 hX hbl hbA z' N k23 K23 x4 z115 hF _ _ _ _ _ hW hS (lv_sub hl [2, 3, 4, 5, 6] rfl) (by omega) (by omega)
    · replace hF := (if_pos h117).symm.trans hF
      refine lv_aload_n hx hb d_l_law_778 rfl (lv_at hl 5 rfl) ?_
      refine lv_iconst (v := 0) hx hb d_l_law_779 (by decide) ?_
      refine hw_lald hx hb hK hW d_l_law_780 ?_
      refine lv_iload hx hb d_l_law_781 (lv_at hl 0 rfl) ?_
      refine lv_i2l hx hb d_l_law_783 rfl ?_
      refine W.lcmp hx hb d_l_law_784 ?_
      refine lv_if_eq (tgt := 790) hx hb d_l_law_785 (by decide) (fun h118 => ?_) (fun h118 => ?_)
      · replace hF := (if_pos h118).symm.trans hF
        exact law_B790 l hl0 hLi hx hb hr hlk hml hts hown hK hZ hsz hb0 hX hbl hbA z' N k23 K23 x4 z115 hF _ _ _ _ _ hW hS (lv_sub hl [2, 3, 4, 5, 6] rfl) (by omega) (by omega)
      · replace hF := (if_neg h118).symm.trans hF
        refine lv_iconst (v := 0) hx hb d_l_law_788 (by decide) ?_
        exact hw_lawret hx hb hr hlk hS hb0 (by omega) (by omega) d_l_law_789 hF
  · replace hF := (if_neg h116).symm.trans hF
    refine lv_iconst (v := 0) hx hb d_l_law_771 (by decide) ?_
    exact hw_lawret hx hb hr hlk hS hb0 (by omega) (by omega) d_l_law_772 hF
set_option maxRecDepth 100000 in
set_option maxHeartbeats 4000000 in
theorem law_B746 (l : Launch) (hl0 : l.stackTraces = false) {L : Nat → Nat → Nat} {Ar : Nat → ClassId} {D : va_G} {b0 : Nat} (hLi : f_L L b0) {p : Program} {e : Env} {s : State} {m : MethodId} {below : List Frame} {meth : Method} {c : Code} {b xn : Nat} {xs : Nat → Int32} (hx : p.tables.exec = Jvm.exec) (hb : c.code = code) (hr : meth.sig.returnType = ret) (hlk : meth.locks = false) (hml : c.maxLocals = 7) (hts : ∀ w ∈ wt, w.before #[Value.ref b] s = true) (hown : s.vm.findClass "BottleReturnLaw" = some m.cls) (hK : f_K Ar D s) (hZ : f_Z b0 s s.heap) (hsz : b0 ≤ s.heap.size) (hb0 : s.heap.size ≤ b0) (hX : va_X b xn xs s s.heap) (hbl : b < s.heap.size) (hbA : ¬ f_A b0 b) (z' : fST) (N : Nat) (k23 : Int32 × fST → Option (Int32 × fST)) (K23 : ∀ (x4 : Int32) (z : fST), k23 (x4, z) = some (1, z') → f_B p l e room_1 s m #[Value.ref b] below meth c L Ar D b0 7 600000 (lw_Z below #[Value.ref b] s) N 23 [(0, .ref b), (1, .ref (L 0 0)), (2, .ref (L 30 0)), (3, .ref (L 50 0)), (4, .int x4)] [] z) (x4 : Int32) (z : fST) (hF : b_l_law_746 xn xs k23 x4 z = some (1, z')) : f_B p l e room_1 s m #[Value.ref b] below meth c L Ar D b0 7 600000 (lw_Z below #[Value.ref b] s) (N + 0) 746 [(0, .ref b), (1, .ref (L 0 0)), (2, .ref (L 30 0)), (3, .ref (L 50 0)), (4, .int x4)] [] z := by
  have hRf : room_1.frames = 11 := rfl
  have hRl : room_1.locals = 404 := rfl
  have hRc : room_1.cells = 601024 := rfl
  have hRs : room_1.slots = 7293034 := rfl
  intro H locs ls cells slots hW hS hl hc hs
  unfold b_l_law_746 at hF
  refine lv_goto (tgt := 1421) hx hb d_l_law_746 (by decide) ?_
  exact law_B1421 l hl0 hLi hx hb hr hlk hml hts hown hK hZ hsz hb0 hX hbl hbA z' N k23 K23 x4 z hF _ _ _ _ _ hW hS (lv_sub hl [0, 1, 2, 3, 4] rfl) (by omega) (by omega)
set_option maxRecDepth 100000 in
set_option maxHeartbeats 4000000 in
theorem law_B705 (l : Launch) (hl0 : l.stackTraces = false) {L : Nat → Nat → Nat} {Ar : Nat → ClassId} {D : va_G} {b0 : Nat} (hLi : f_L L b0) {p : Program} {e : Env} {s : State} {m : MethodId} {below : List Frame} {meth : Method} {c : Code} {b xn : Nat} {xs : Nat → Int32} (hx : p.tables.exec = Jvm.exec) (hb : c.code = code) (hr : meth.sig.returnType = ret) (hlk : meth.locks = false) (hml : c.maxLocals = 7) (hts : ∀ w ∈ wt, w.before #[Value.ref b] s = true) (hown : s.vm.findClass "BottleReturnLaw" = some m.cls) (hK : f_K Ar D s) (hZ : f_Z b0 s s.heap) (hsz : b0 ≤ s.heap.size) (hb0 : s.heap.size ≤ b0) (hX : va_X b xn xs s s.heap) (hbl : b < s.heap.size) (hbA : ¬ f_A b0 b) (z' : fST) (N : Nat) (k23 : Int32 × fST → Option (Int32 × fST)) (K23 : ∀ (x4 : Int32) (z : fST), k23 (x4, z) = some (1, z') → f_B p l e room_1 s m #[Value.ref b] below meth c L Ar D b0 7 600000 (lw_Z below #[Value.ref b] s) N 23 [(0, .ref b), (1, .ref (L 0 0)), (2, .ref (L 30 0)), (3, .ref (L 50 0)), (4, .int x4)] [] z) (x4 : Int32) (z : fST) (hF : b_l_law_705 xn xs k23 x4 z = some (1, z')) : f_B p l e room_1 s m #[Value.ref b] below meth c L Ar D b0 7 600000 (lw_Z below #[Value.ref b] s) (N + 1) 705 [(0, .ref b), (1, .ref (L 0 0)), (2, .ref (L 30 0)), (3, .ref (L 50 0)), (4, .int x4)] [] z := by
  have hRf : room_1.frames = 11 := rfl
  have hRl : room_1.locals = 404 := rfl
  have hRc : room_1.cells = 601024 := rfl
  have hRs : room_1.slots = 7293034 := rfl
  intro H locs ls cells slots hW hS hl hc hs
  unfold b_l_law_705 at hF
  refine lv_aload_n hx hb d_l_law_705 rfl (lv_at hl 1 rfl) ?_
  refine lv_aload_n hx hb d_l_law_706 rfl (lv_at hl 3 rfl) ?_
  obtain ⟨v107, z107, hc107, hF⟩ := f_bd_some hF
  refine hw_SW (As := [.ref (L 0 0), .ref (L 50 0)]) (rest := []) hx hb hml hown hts (c_l_voucher_ok l hl0 hLi   _ _ _ hc107) st_l_118 hK hZ hsz hS hW rfl hl.1 (Nat.le_of_ble_eq_true rfl) d_l_law_707 (by omega) (by omega) (by omega) (by omega) (fun H locs hW hS => ?_)
  refine lv_istore (lv' := [(5, .int v107), (0, .ref b), (1, .ref (L 0 0)), (2, .ref (L 30 0)), (3, .ref (L 50 0)), (4, .int x4)]) hx hb d_l_law_710 hl (by decide) rfl (fun ls hl => ?_)
  refine lv_aload_n hx hb d_l_law_712 rfl (lv_at hl 3 rfl) ?_
  obtain ⟨v108, z108, hc108, hF⟩ := f_bd_some hF
  refine hw_VR (k := 30) (i := 0) (nk := 1) (As := []) (rest := []) hx hb hml hown hts (c_m_voucher_ok l hl0 hLi   _ _ _ hc108) st_l_121 (by decide) rfl (by omega) rfl rfl hK hZ hsz hS hW rfl hl.1 (Nat.le_of_ble_eq_true rfl) d_l_law_713 (by omega) (by omega) (by omega) (by omega) (fun H locs hW hS => ?_)
  refine lv_istore (lv' := [(6, .int v108), (5, .int v107), (0, .ref b), (1, .ref (L 0 0)), (2, .ref (L 30 0)), (3, .ref (L 50 0)), (4, .int x4)]) hx hb d_l_law_716 hl (by decide) rfl (fun ls hl => ?_)
  refine lv_aload_n hx hb d_l_law_718 rfl (lv_at hl 4 rfl) ?_
  obtain ⟨v109, z109, hc109, hF⟩ := f_bd_some hF
  refine hw_VR (k := 30) (i := 0) (nk := 1) (As := []) (rest := []) hx hb hml hown hts (c_m_thrown_ok l hl0 hLi   _ _ _ hc109) st_l_92 (by decide) rfl (by omega) rfl rfl hK hZ hsz hS hW rfl hl.1 (Nat.le_of_ble_eq_true rfl) d_l_law_719 (by omega) (by omega) (by omega) (by omega) (fun H locs hW hS => ?_)
  refine lv_iload hx hb d_l_law_722 (lv_at hl 1 rfl) ?_
  refine lv_icmp_eq (tgt := 729) hx hb d_l_law_724 (by decide) (fun h110 => ?_) (fun h110 => ?_)
  · replace hF := (if_pos h110).symm.trans hF
    refine lv_iload hx hb d_l_law_729 (lv_at hl 1 rfl) ?_
    refine lv_if_ne (tgt := 746) hx hb d_l_law_731 (by decide) (fun h111 => ?_) (fun h111 => ?_)
    · replace hF := (if_neg h111).symm.trans hF
      exact law_B746 l hl0 hLi hx hb hr hlk hml hts hown hK hZ hsz hb0 hX hbl hbA z' N k23 K23 x4 z109 hF _ _ _ _ _ hW hS (lv_sub hl [2, 3, 4, 5, 6] rfl) (by omega) (by omega)
    · replace hF := (if_pos h111).symm.trans hF
      refine lv_aload_n hx hb d_l_law_734 rfl (lv_at hl 5 rfl) ?_
      refine lv_iconst (v := 0) hx hb d_l_law_735 (by decide) ?_
      refine hw_lald hx hb hK hW d_l_law_736 ?_
      refine lv_iload hx hb d_l_law_737 (lv_at hl 0 rfl) ?_
      refine lv_i2l hx hb d_l_law_739 rfl ?_
      refine W.lcmp hx hb d_l_law_740 ?_
      refine lv_if_eq (tgt := 746) hx hb d_l_law_741 (by decide) (fun h112 => ?_) (fun h112 => ?_)
      · replace hF := (if_pos h112).symm.trans hF
        exact law_B746 l hl0 hLi hx hb hr hlk hml hts hown hK hZ hsz hb0 hX hbl hbA z' N k23 K23 x4 z109 hF _ _ _ _ _ hW hS (lv_sub hl [2, 3, 4, 5, 6] rfl) (by omega) (by omega)
      · replace hF := (if_neg h112).symm.trans hF
        refine lv_iconst (v := 0) hx hb d_l_law_744 (by decide) ?_
        exact hw_lawret hx hb hr hlk hS hb0 (by omega) (by omega) d_l_law_745 hF
  · replace hF := (if_neg h110).symm.trans hF
    refine lv_iconst (v := 0) hx hb d_l_law_727 (by decide) ?_
    exact hw_lawret hx hb hr hlk hS hb0 (by omega) (by omega) d_l_law_728 hF
set_option maxRecDepth 100000 in
set_option maxHeartbeats 4000000 in
theorem law_B702 (l : Launch) (hl0 : l.stackTraces = false) {L : Nat → Nat → Nat} {Ar : Nat → ClassId} {D : va_G} {b0 : Nat} (hLi : f_L L b0) {p : Program} {e : Env} {s : State} {m : MethodId} {below : List Frame} {meth : Method} {c : Code} {b xn : Nat} {xs : Nat → Int32} (hx : p.tables.exec = Jvm.exec) (hb : c.code = code) (hr : meth.sig.returnType = ret) (hlk : meth.locks = false) (hml : c.maxLocals = 7) (hts : ∀ w ∈ wt, w.before #[Value.ref b] s = true) (hown : s.vm.findClass "BottleReturnLaw" = some m.cls) (hK : f_K Ar D s) (hZ : f_Z b0 s s.heap) (hsz : b0 ≤ s.heap.size) (hb0 : s.heap.size ≤ b0) (hX : va_X b xn xs s s.heap) (hbl : b < s.heap.size) (hbA : ¬ f_A b0 b) (z' : fST) (N : Nat) (k23 : Int32 × fST → Option (Int32 × fST)) (K23 : ∀ (x4 : Int32) (z : fST), k23 (x4, z) = some (1, z') → f_B p l e room_1 s m #[Value.ref b] below meth c L Ar D b0 7 600000 (lw_Z below #[Value.ref b] s) N 23 [(0, .ref b), (1, .ref (L 0 0)), (2, .ref (L 30 0)), (3, .ref (L 50 0)), (4, .int x4)] [] z) (x4 : Int32) (z : fST) (hF : b_l_law_702 xn xs k23 x4 z = some (1, z')) : f_B p l e room_1 s m #[Value.ref b] below meth c L Ar D b0 7 600000 (lw_Z below #[Value.ref b] s) (N + 0) 702 [(0, .ref b), (1, .ref (L 0 0)), (2, .ref (L 30 0)), (3, .ref (L 50 0)), (4, .int x4)] [] z := by
  have hRf : room_1.frames = 11 := rfl
  have hRl : room_1.locals = 404 := rfl
  have hRc : room_1.cells = 601024 := rfl
  have hRs : room_1.slots = 7293034 := rfl
  intro H locs ls cells slots hW hS hl hc hs
  unfold b_l_law_702 at hF
  refine lv_goto (tgt := 1421) hx hb d_l_law_702 (by decide) ?_
  exact law_B1421 l hl0 hLi hx hb hr hlk hml hts hown hK hZ hsz hb0 hX hbl hbA z' N k23 K23 x4 z hF _ _ _ _ _ hW hS (lv_sub hl [0, 1, 2, 3, 4] rfl) (by omega) (by omega)
set_option maxRecDepth 100000 in
set_option maxHeartbeats 4000000 in
theorem law_B649 (l : Launch) (hl0 : l.stackTraces = false) {L : Nat → Nat → Nat} {Ar : Nat → ClassId} {D : va_G} {b0 : Nat} (hLi : f_L L b0) {p : Program} {e : Env} {s : State} {m : MethodId} {below : List Frame} {meth : Method} {c : Code} {b xn : Nat} {xs : Nat → Int32} (hx : p.tables.exec = Jvm.exec) (hb : c.code = code) (hr : meth.sig.returnType = ret) (hlk : meth.locks = false) (hml : c.maxLocals = 7) (hts : ∀ w ∈ wt, w.before #[Value.ref b] s = true) (hown : s.vm.findClass "BottleReturnLaw" = some m.cls) (hK : f_K Ar D s) (hZ : f_Z b0 s s.heap) (hsz : b0 ≤ s.heap.size) (hb0 : s.heap.size ≤ b0) (hX : va_X b xn xs s s.heap) (hbl : b < s.heap.size) (hbA : ¬ f_A b0 b) (z' : fST) (N : Nat) (k23 : Int32 × fST → Option (Int32 × fST)) (K23 : ∀ (x4 : Int32) (z : fST), k23 (x4, z) = some (1, z') → f_B p l e room_1 s m #[Value.ref b] below meth c L Ar D b0 7 600000 (lw_Z below #[Value.ref b] s) N 23 [(0, .ref b), (1, .ref (L 0 0)), (2, .ref (L 30 0)), (3, .ref (L 50 0)), (4, .int x4)] [] z) (x4 : Int32) (z : fST) (hF : b_l_law_649 xn xs k23 x4 z = some (1, z')) : f_B p l e room_1 s m #[Value.ref b] below meth c L Ar D b0 7 600000 (lw_Z below #[Value.ref b] s) (N + 2) 649 [(0, .ref b), (1, .ref (L 0 0)), (2, .ref (L 30 0)), (3, .ref (L 50 0)), (4, .int x4)] [] z := by
  have hRf : room_1.frames = 11 := rfl
  have hRl : room_1.locals = 404 := rfl
  have hRc : room_1.cells = 601024 := rfl
  have hRs : room_1.slots = 7293034 := rfl
  intro H locs ls cells slots hW hS hl hc hs
  unfold b_l_law_649 at hF
  refine lv_aload_n hx hb d_l_law_649 rfl (lv_at hl 1 rfl) ?_
  refine lv_aload_n hx hb d_l_law_650 rfl (lv_at hl 0 rfl) ?_
  refine lv_iload hx hb d_l_law_651 (lv_at hl 4 rfl) ?_
  refine lv_iconst (v := 1) hx hb d_l_law_653 (by decide) ?_
  refine lv_iadd hx hb d_l_law_654 ?_
  obtain ⟨g99, hF⟩ := f_gd_some hF
  refine va_sld hx hb hX hbl hbA hS (f_ib_in g99) d_l_law_655 ?_
  refine lv_aload_n hx hb d_l_law_656 rfl (lv_at hl 3 rfl) ?_
  obtain ⟨v100, z100, hc100, hF⟩ := f_bd_some hF
  refine hw_SW (As := [.ref (L 0 0), .int (xs (f_ix (x4 + 1))), .ref (L 50 0)]) (rest := []) hx hb hml hown hts (c_l_back_ok l hl0 hLi (xs (f_ix (x4 + 1)))  _ _ _ hc100) st_l_115 hK hZ hsz hS hW rfl hl.1 (Nat.le_of_ble_eq_true rfl) d_l_law_657 (by omega) (by omega) (by omega) (by omega) (fun H locs hW hS => ?_)
  refine lv_istore (lv' := [(5, .int v100), (0, .ref b), (1, .ref (L 0 0)), (2, .ref (L 30 0)), (3, .ref (L 50 0)), (4, .int x4)]) hx hb d_l_law_660 hl (by decide) rfl (fun ls hl => ?_)
  refine lv_aload_n hx hb d_l_law_662 rfl (lv_at hl 3 rfl) ?_
  refine lv_aload_n hx hb d_l_law_663 rfl (lv_at hl 1 rfl) ?_
  refine lv_iload hx hb d_l_law_664 (lv_at hl 5 rfl) ?_
  refine lv_iconst (v := 1) hx hb d_l_law_666 (by decide) ?_
  refine lv_iadd hx hb d_l_law_667 ?_
  obtain ⟨g101, hF⟩ := f_gd_some hF
  refine va_sld hx hb hX hbl hbA hS (f_ib_in g101) d_l_law_668 ?_
  obtain ⟨v102, z102, hc102, hF⟩ := f_bd_some hF
  refine hw_VR (k := 30) (i := 0) (nk := 1) (As := [.int (xs (f_ix (x4 + 1)))]) (rest := []) hx hb hml hown hts (c_m_back_ok l hl0 hLi (xs (f_ix (x4 + 1)))  _ _ _ hc102) st_l_117 (by decide) rfl (by omega) rfl rfl hK hZ hsz hS hW rfl hl.1 (Nat.le_of_ble_eq_true rfl) d_l_law_669 (by omega) (by omega) (by omega) (by omega) (fun H locs hW hS => ?_)
  refine lv_istore (lv' := [(6, .int v102), (5, .int v100), (0, .ref b), (1, .ref (L 0 0)), (2, .ref (L 30 0)), (3, .ref (L 50 0)), (4, .int x4)]) hx hb d_l_law_672 hl (by decide) rfl (fun ls hl => ?_)
  refine lv_aload_n hx hb d_l_law_674 rfl (lv_at hl 4 rfl) ?_
  obtain ⟨v103, z103, hc103, hF⟩ := f_bd_some hF
  refine hw_VR (k := 30) (i := 0) (nk := 1) (As := []) (rest := []) hx hb hml hown hts (c_m_thrown_ok l hl0 hLi   _ _ _ hc103) st_l_92 (by decide) rfl (by omega) rfl rfl hK hZ hsz hS hW rfl hl.1 (Nat.le_of_ble_eq_true rfl) d_l_law_675 (by omega) (by omega) (by omega) (by omega) (fun H locs hW hS => ?_)
  refine lv_iload hx hb d_l_law_678 (lv_at hl 1 rfl) ?_
  refine lv_icmp_eq (tgt := 685) hx hb d_l_law_680 (by decide) (fun h104 => ?_) (fun h104 => ?_)
  · replace hF := (if_pos h104).symm.trans hF
    refine lv_iload hx hb d_l_law_685 (lv_at hl 1 rfl) ?_
    refine lv_if_ne (tgt := 702) hx hb d_l_law_687 (by decide) (fun h105 => ?_) (fun h105 => ?_)
    · replace hF := (if_neg h105).symm.trans hF
      exact law_B702 l hl0 hLi hx hb hr hlk hml hts hown hK hZ hsz hb0 hX hbl hbA z' N k23 K23 x4 z103 hF _ _ _ _ _ hW hS (lv_sub hl [2, 3, 4, 5, 6] rfl) (by omega) (by omega)
    · replace hF := (if_pos h105).symm.trans hF
      refine lv_aload_n hx hb d_l_law_690 rfl (lv_at hl 5 rfl) ?_
      refine lv_iconst (v := 0) hx hb d_l_law_691 (by decide) ?_
      refine hw_lald hx hb hK hW d_l_law_692 ?_
      refine lv_iload hx hb d_l_law_693 (lv_at hl 0 rfl) ?_
      refine lv_i2l hx hb d_l_law_695 rfl ?_
      refine W.lcmp hx hb d_l_law_696 ?_
      refine lv_if_eq (tgt := 702) hx hb d_l_law_697 (by decide) (fun h106 => ?_) (fun h106 => ?_)
      · replace hF := (if_pos h106).symm.trans hF
        exact law_B702 l hl0 hLi hx hb hr hlk hml hts hown hK hZ hsz hb0 hX hbl hbA z' N k23 K23 x4 z103 hF _ _ _ _ _ hW hS (lv_sub hl [2, 3, 4, 5, 6] rfl) (by omega) (by omega)
      · replace hF := (if_neg h106).symm.trans hF
        refine lv_iconst (v := 0) hx hb d_l_law_700 (by decide) ?_
        exact hw_lawret hx hb hr hlk hS hb0 (by omega) (by omega) d_l_law_701 hF
  · replace hF := (if_neg h104).symm.trans hF
    refine lv_iconst (v := 0) hx hb d_l_law_683 (by decide) ?_
    exact hw_lawret hx hb hr hlk hS hb0 (by omega) (by omega) d_l_law_684 hF
set_option maxRecDepth 100000 in
set_option maxHeartbeats 4000000 in
theorem law_B646 (l : Launch) (hl0 : l.stackTraces = false) {L : Nat → Nat → Nat} {Ar : Nat → ClassId} {D : va_G} {b0 : Nat} (hLi : f_L L b0) {p : Program} {e : Env} {s : State} {m : MethodId} {below : List Frame} {meth : Method} {c : Code} {b xn : Nat} {xs : Nat → Int32} (hx : p.tables.exec = Jvm.exec) (hb : c.code = code) (hr : meth.sig.returnType = ret) (hlk : meth.locks = false) (hml : c.maxLocals = 7) (hts : ∀ w ∈ wt, w.before #[Value.ref b] s = true) (hown : s.vm.findClass "BottleReturnLaw" = some m.cls) (hK : f_K Ar D s) (hZ : f_Z b0 s s.heap) (hsz : b0 ≤ s.heap.size) (hb0 : s.heap.size ≤ b0) (hX : va_X b xn xs s s.heap) (hbl : b < s.heap.size) (hbA : ¬ f_A b0 b) (z' : fST) (N : Nat) (k23 : Int32 × fST → Option (Int32 × fST)) (K23 : ∀ (x4 : Int32) (z : fST), k23 (x4, z) = some (1, z') → f_B p l e room_1 s m #[Value.ref b] below meth c L Ar D b0 7 600000 (lw_Z below #[Value.ref b] s) N 23 [(0, .ref b), (1, .ref (L 0 0)), (2, .ref (L 30 0)), (3, .ref (L 50 0)), (4, .int x4)] [] z) (x4 : Int32) (z : fST) (hF : b_l_law_646 xn xs k23 x4 z = some (1, z')) : f_B p l e room_1 s m #[Value.ref b] below meth c L Ar D b0 7 600000 (lw_Z below #[Value.ref b] s) (N + 0) 646 [(0, .ref b), (1, .ref (L 0 0)), (2, .ref (L 30 0)), (3, .ref (L 50 0)), (4, .int x4)] [] z := by
  have hRf : room_1.frames = 11 := rfl
  have hRl : room_1.locals = 404 := rfl
  have hRc : room_1.cells = 601024 := rfl
  have hRs : room_1.slots = 7293034 := rfl
  intro H locs ls cells slots hW hS hl hc hs
  unfold b_l_law_646 at hF
  refine lv_goto (tgt := 1421) hx hb d_l_law_646 (by decide) ?_
  exact law_B1421 l hl0 hLi hx hb hr hlk hml hts hown hK hZ hsz hb0 hX hbl hbA z' N k23 K23 x4 z hF _ _ _ _ _ hW hS (lv_sub hl [0, 1, 2, 3, 4] rfl) (by omega) (by omega)
set_option maxRecDepth 100000 in
set_option maxHeartbeats 4000000 in
theorem law_B593 (l : Launch) (hl0 : l.stackTraces = false) {L : Nat → Nat → Nat} {Ar : Nat → ClassId} {D : va_G} {b0 : Nat} (hLi : f_L L b0) {p : Program} {e : Env} {s : State} {m : MethodId} {below : List Frame} {meth : Method} {c : Code} {b xn : Nat} {xs : Nat → Int32} (hx : p.tables.exec = Jvm.exec) (hb : c.code = code) (hr : meth.sig.returnType = ret) (hlk : meth.locks = false) (hml : c.maxLocals = 7) (hts : ∀ w ∈ wt, w.before #[Value.ref b] s = true) (hown : s.vm.findClass "BottleReturnLaw" = some m.cls) (hK : f_K Ar D s) (hZ : f_Z b0 s s.heap) (hsz : b0 ≤ s.heap.size) (hb0 : s.heap.size ≤ b0) (hX : va_X b xn xs s s.heap) (hbl : b < s.heap.size) (hbA : ¬ f_A b0 b) (z' : fST) (N : Nat) (k23 : Int32 × fST → Option (Int32 × fST)) (K23 : ∀ (x4 : Int32) (z : fST), k23 (x4, z) = some (1, z') → f_B p l e room_1 s m #[Value.ref b] below meth c L Ar D b0 7 600000 (lw_Z below #[Value.ref b] s) N 23 [(0, .ref b), (1, .ref (L 0 0)), (2, .ref (L 30 0)), (3, .ref (L 50 0)), (4, .int x4)] [] z) (x4 : Int32) (z : fST) (hF : b_l_law_593 xn xs k23 x4 z = some (1, z')) : f_B p l e room_1 s m #[Value.ref b] below meth c L Ar D b0 7 600000 (lw_Z below #[Value.ref b] s) (N + 2) 593 [(0, .ref b), (1, .ref (L 0 0)), (2, .ref (L 30 0)), (3, .ref (L 50 0)), (4, .int x4)] [] z := by
  have hRf : room_1.frames = 11 := rfl
  have hRl : room_1.locals = 404 := rfl
  have hRc : room_1.cells = 601024 := rfl
  have hRs : room_1.slots = 7293034 := rfl
  intro H locs ls cells slots hW hS hl hc hs
  unfold b_l_law_593 at hF
  refine lv_aload_n hx hb d_l_law_593 rfl (lv_at hl 1 rfl) ?_
  refine lv_aload_n hx hb d_l_law_594 rfl (lv_at hl 0 rfl) ?_
  refine lv_iload hx hb d_l_law_595 (lv_at hl 4 rfl) ?_
  refine lv_iconst (v := 1) hx hb d_l_law_597 (by decide) ?_
  refine lv_iadd hx hb d_l_law_598 ?_
  obtain ⟨g91, hF⟩ := f_gd_some hF
  refine va_sld hx hb hX hbl hbA hS (f_ib_in g91) d_l_law_599 ?_
  refine lv_aload_n hx hb d_l_law_600 rfl (lv_at hl 3 rfl) ?_
  obtain ⟨v92, z92, hc92, hF⟩ := f_bd_some hF
  refine hw_SW (As := [.ref (L 0 0), .int (xs (f_ix (x4 + 1))), .ref (L 50 0)]) (rest := []) hx hb hml hown hts (c_l_forward_ok l hl0 hLi (xs (f_ix (x4 + 1)))  _ _ _ hc92) st_l_112 hK hZ hsz hS hW rfl hl.1 (Nat.le_of_ble_eq_true rfl) d_l_law_601 (by omega) (by omega) (by omega) (by omega) (fun H locs hW hS => ?_)
  refine lv_istore (lv' := [(5, .int v92), (0, .ref b), (1, .ref (L 0 0)), (2, .ref (L 30 0)), (3, .ref (L 50 0)), (4, .int x4)]) hx hb d_l_law_604 hl (by decide) rfl (fun ls hl => ?_)
  refine lv_aload_n hx hb d_l_law_606 rfl (lv_at hl 3 rfl) ?_
  refine lv_aload_n hx hb d_l_law_607 rfl (lv_at hl 1 rfl) ?_
  refine lv_iload hx hb d_l_law_608 (lv_at hl 5 rfl) ?_
  refine lv_iconst (v := 1) hx hb d_l_law_610 (by decide) ?_
  refine lv_iadd hx hb d_l_law_611 ?_
  obtain ⟨g93, hF⟩ := f_gd_some hF
  refine va_sld hx hb hX hbl hbA hS (f_ib_in g93) d_l_law_612 ?_
  obtain ⟨v94, z94, hc94, hF⟩ := f_bd_some hF
  refine hw_VR (k := 30) (i := 0) (nk := 1) (As := [.int (xs (f_ix (x4 + 1)))]) (rest := []) hx hb hml hown hts (c_m_forward_ok l hl0 hLi (xs (f_ix (x4 + 1)))  _ _ _ hc94) st_l_114 (by decide) rfl (by omega) rfl rfl hK hZ hsz hS hW rfl hl.1 (Nat.le_of_ble_eq_true rfl) d_l_law_613 (by omega) (by omega) (by omega) (by omega) (fun H locs hW hS => ?_)
  refine lv_istore (lv' := [(6, .int v94), (5, .int v92), (0, .ref b), (1, .ref (L 0 0)), (2, .ref (L 30 0)), (3, .ref (L 50 0)), (4, .int x4)]) hx hb d_l_law_616 hl (by decide) rfl (fun ls hl => ?_)
  refine lv_aload_n hx hb d_l_law_618 rfl (lv_at hl 4 rfl) ?_
  obtain ⟨v95, z95, hc95, hF⟩ := f_bd_some hF
  refine hw_VR (k := 30) (i := 0) (nk := 1) (As := []) (rest := []) hx hb hml hown hts (c_m_thrown_ok l hl0 hLi   _ _ _ hc95) st_l_92 (by decide) rfl (by omega) rfl rfl hK hZ hsz hS hW rfl hl.1 (Nat.le_of_ble_eq_true rfl) d_l_law_619 (by omega) (by omega) (by omega) (by omega) (fun H locs hW hS => ?_)
  refine lv_iload hx hb d_l_law_622 (lv_at hl 1 rfl) ?_
  refine lv_icmp_eq (tgt := 629) hx hb d_l_law_624 (by decide) (fun h96 => ?_) (fun h96 => ?_)
  · replace hF := (if_pos h96).symm.trans hF
    refine lv_iload hx hb d_l_law_629 (lv_at hl 1 rfl) ?_
    refine lv_if_ne (tgt := 646) hx hb d_l_law_631 (by decide) (fun h97 => ?_) (fun h97 => ?_)
    · replace hF := (if_neg h97).symm.trans hF
      exact law_B646 l hl0 hLi hx hb hr hlk hml hts hown hK hZ hsz hb0 hX hbl hbA z' N k23 K23 x4 z95 hF _ _ _ _ _ hW hS (lv_sub hl [2, 3, 4, 5, 6] rfl) (by omega) (by omega)
    · replace hF := (if_pos h97).symm.trans hF
      refine lv_aload_n hx hb d_l_law_634 rfl (lv_at hl 5 rfl) ?_
      refine lv_iconst (v := 0) hx hb d_l_law_635 (by decide) ?_
      refine hw_lald hx hb hK hW d_l_law_636 ?_
      refine lv_iload hx hb d_l_law_637 (lv_at hl 0 rfl) ?_
      refine lv_i2l hx hb d_l_law_639 rfl ?_
      refine W.lcmp hx hb d_l_law_640 ?_
      refine lv_if_eq (tgt := 646) hx hb d_l_law_641 (by decide) (fun h98 => ?_) (fun h98 => ?_)
      · replace hF := (if_pos h98).symm.trans hF
        exact law_B646 l hl0 hLi hx hb hr hlk hml hts hown hK hZ hsz hb0 hX hbl hbA z' N k23 K23 x4 z95 hF _ _ _ _ _ hW hS (lv_sub hl [2, 3, 4, 5, 6] rfl) (by omega) (by omega)
      · replace hF := (if_neg h98).symm.trans hF
        refine lv_iconst (v := 0) hx hb d_l_law_644 (by decide) ?_
        exact hw_lawret hx hb hr hlk hS hb0 (by omega) (by omega) d_l_law_645 hF
  · replace hF := (if_neg h96).symm.trans hF
    refine lv_iconst (v := 0) hx hb d_l_law_627 (by decide) ?_
    exact hw_lawret hx hb hr hlk hS hb0 (by omega) (by omega) d_l_law_628 hF
set_option maxRecDepth 100000 in
set_option maxHeartbeats 4000000 in
theorem law_B590 (l : Launch) (hl0 : l.stackTraces = false) {L : Nat → Nat → Nat} {Ar : Nat → ClassId} {D : va_G} {b0 : Nat} (hLi : f_L L b0) {p : Program} {e : Env} {s : State} {m : MethodId} {below : List Frame} {meth : Method} {c : Code} {b xn : Nat} {xs : Nat → Int32} (hx : p.tables.exec = Jvm.exec) (hb : c.code = code) (hr : meth.sig.returnType = ret) (hlk : meth.locks = false) (hml : c.maxLocals = 7) (hts : ∀ w ∈ wt, w.before #[Value.ref b] s = true) (hown : s.vm.findClass "BottleReturnLaw" = some m.cls) (hK : f_K Ar D s) (hZ : f_Z b0 s s.heap) (hsz : b0 ≤ s.heap.size) (hb0 : s.heap.size ≤ b0) (hX : va_X b xn xs s s.heap) (hbl : b < s.heap.size) (hbA : ¬ f_A b0 b) (z' : fST) (N : Nat) (k23 : Int32 × fST → Option (Int32 × fST)) (K23 : ∀ (x4 : Int32) (z : fST), k23 (x4, z) = some (1, z') → f_B p l e room_1 s m #[Value.ref b] below meth c L Ar D b0 7 600000 (lw_Z below #[Value.ref b] s) N 23 [(0, .ref b), (1, .ref (L 0 0)), (2, .ref (L 30 0)), (3, .ref (L 50 0)), (4, .int x4)] [] z) (x4 : Int32) (z : fST) (hF : b_l_law_590 xn xs k23 x4 z = some (1, z')) : f_B p l e room_1 s m #[Value.ref b] below meth c L Ar D b0 7 600000 (lw_Z below #[Value.ref b] s) (N + 0) 590 [(0, .ref b), (1, .ref (L 0 0)), (2, .ref (L 30 0)), (3, .ref (L 50 0)), (4, .int x4)] [] z := by
  have hRf : room_1.frames = 11 := rfl
  have hRl : room_1.locals = 404 := rfl
  have hRc : room_1.cells = 601024 := rfl
  have hRs : room_1.slots = 7293034 := rfl
  intro H locs ls cells slots hW hS hl hc hs
  unfold b_l_law_590 at hF
  refine lv_goto (tgt := 1421) hx hb d_l_law_590 (by decide) ?_
  exact law_B1421 l hl0 hLi hx hb hr hlk hml hts hown hK hZ hsz hb0 hX hbl hbA z' N k23 K23 x4 z hF _ _ _ _ _ hW hS (lv_sub hl [0, 1, 2, 3, 4] rfl) (by omega) (by omega)
set_option maxRecDepth 100000 in
set_option maxHeartbeats 4000000 in
theorem law_B584 (l : Launch) (hl0 : l.stackTraces = false) {L : Nat → Nat → Nat} {Ar : Nat → ClassId} {D : va_G} {b0 : Nat} (hLi : f_L L b0) {p : Program} {e : Env} {s : State} {m : MethodId} {below : List Frame} {meth : Method} {c : Code} {b xn : Nat} {xs : Nat → Int32} (hx : p.tables.exec = Jvm.exec) (hb : c.code = code) (hr : meth.sig.returnType = ret) (hlk : meth.locks = false) (hml : c.maxLocals = 7) (hts : ∀ w ∈ wt, w.before #[Value.ref b] s = true) (hown : s.vm.findClass "BottleReturnLaw" = some m.cls) (hK : f_K Ar D s) (hZ : f_Z b0 s s.heap) (hsz : b0 ≤ s.heap.size) (hb0 : s.heap.size ≤ b0) (hX : va_X b xn xs s s.heap) (hbl : b < s.heap.size) (hbA : ¬ f_A b0 b) (z' : fST) (N : Nat) (k23 : Int32 × fST → Option (Int32 × fST)) (K23 : ∀ (x4 : Int32) (z : fST), k23 (x4, z) = some (1, z') → f_B p l e room_1 s m #[Value.ref b] below meth c L Ar D b0 7 600000 (lw_Z below #[Value.ref b] s) N 23 [(0, .ref b), (1, .ref (L 0 0)), (2, .ref (L 30 0)), (3, .ref (L 50 0)), (4, .int x4)] [] z) (x4 : Int32) (y0 : Int64) (y1 : Int64) (z : fST) (hF : b_l_law_584 xn xs k23 x4 y0 y1 z = some (1, z')) : f_B p l e room_1 s m #[Value.ref b] below meth c L Ar D b0 7 600000 (lw_Z below #[Value.ref b] s) (N + 0) 584 [(0, .ref b), (1, .ref (L 0 0)), (2, .ref (L 30 0)), (3, .ref (L 50 0)), (4, .int x4)] [.long y1, .long y0] z := by
  have hRf : room_1.frames = 11 := rfl
  have hRl : room_1.locals = 404 := rfl
  have hRc : room_1.cells = 601024 := rfl
  have hRs : room_1.slots = 7293034 := rfl
  intro H locs ls cells slots hW hS hl hc hs
  unfold b_l_law_584 at hF
  refine W.lcmp hx hb d_l_law_584 ?_
  refine lv_if_eq (tgt := 590) hx hb d_l_law_585 (by decide) (fun h213 => ?_) (fun h213 => ?_)
  · replace hF := (if_pos h213).symm.trans hF
    exact law_B590 l hl0 hLi hx hb hr hlk hml hts hown hK hZ hsz hb0 hX hbl hbA z' N k23 K23 x4 z hF _ _ _ _ _ hW hS (lv_sub hl [0, 1, 2, 3, 4] rfl) (by omega) (by omega)
  · replace hF := (if_neg h213).symm.trans hF
    refine lv_iconst (v := 0) hx hb d_l_law_588 (by decide) ?_
    exact hw_lawret hx hb hr hlk hS hb0 (by omega) (by omega) d_l_law_589 hF
set_option maxRecDepth 100000 in
set_option maxHeartbeats 4000000 in
theorem law_B530 (l : Launch) (hl0 : l.stackTraces = false) {L : Nat → Nat → Nat} {Ar : Nat → ClassId} {D : va_G} {b0 : Nat} (hLi : f_L L b0) {p : Program} {e : Env} {s : State} {m : MethodId} {below : List Frame} {meth : Method} {c : Code} {b xn : Nat} {xs : Nat → Int32} (hx : p.tables.exec = Jvm.exec) (hb : c.code = code) (hr : meth.sig.returnType = ret) (hlk : meth.locks = false) (hml : c.maxLocals = 7) (hts : ∀ w ∈ wt, w.before #[Value.ref b] s = true) (hown : s.vm.findClass "BottleReturnLaw" = some m.cls) (hK : f_K Ar D s) (hZ : f_Z b0 s s.heap) (hsz : b0 ≤ s.heap.size) (hb0 : s.heap.size ≤ b0) (hX : va_X b xn xs s s.heap) (hbl : b < s.heap.size) (hbA : ¬ f_A b0 b) (z' : fST) (N : Nat) (k23 : Int32 × fST → Option (Int32 × fST)) (K23 : ∀ (x4 : Int32) (z : fST), k23 (x4, z) = some (1, z') → f_B p l e room_1 s m #[Value.ref b] below meth c L Ar D b0 7 600000 (lw_Z below #[Value.ref b] s) N 23 [(0, .ref b), (1, .ref (L 0 0)), (2, .ref (L 30 0)), (3, .ref (L 50 0)), (4, .int x4)] [] z) (x4 : Int32) (z : fST) (hF : b_l_law_530 xn xs k23 x4 z = some (1, z')) : f_B p l e room_1 s m #[Value.ref b] below meth c L Ar D b0 7 600000 (lw_Z below #[Value.ref b] s) (N + 2) 530 [(0, .ref b), (1, .ref (L 0 0)), (2, .ref (L 30 0)), (3, .ref (L 50 0)), (4, .int x4)] [] z := by
  have hRf : room_1.frames = 11 := rfl
  have hRl : room_1.locals = 404 := rfl
  have hRc : room_1.cells = 601024 := rfl
  have hRs : room_1.slots = 7293034 := rfl
  intro H locs ls cells slots hW hS hl hc hs
  unfold b_l_law_530 at hF
  refine lv_aload_n hx hb d_l_law_530 rfl (lv_at hl 1 rfl) ?_
  refine lv_aload_n hx hb d_l_law_531 rfl (lv_at hl 0 rfl) ?_
  refine lv_iload hx hb d_l_law_532 (lv_at hl 4 rfl) ?_
  refine lv_iconst (v := 1) hx hb d_l_law_534 (by decide) ?_
  refine lv_iadd hx hb d_l_law_535 ?_
  obtain ⟨g83, hF⟩ := f_gd_some hF
  refine va_sld hx hb hX hbl hbA hS (f_ib_in g83) d_l_law_536 ?_
  refine lv_aload_n hx hb d_l_law_537 rfl (lv_at hl 3 rfl) ?_
  obtain ⟨v84, z84, hc84, hF⟩ := f_bd_some hF
  refine hw_SW (As := [.ref (L 0 0), .int (xs (f_ix (x4 + 1))), .ref (L 50 0)]) (rest := []) hx hb hml hown hts (c_l_weigh_ok l hl0 hLi (xs (f_ix (x4 + 1)))  _ _ _ hc84) st_l_109 hK hZ hsz hS hW rfl hl.1 (Nat.le_of_ble_eq_true rfl) d_l_law_538 (by omega) (by omega) (by omega) (by omega) (fun H locs hW hS => ?_)
  refine lv_istore (lv' := [(5, .int v84), (0, .ref b), (1, .ref (L 0 0)), (2, .ref (L 30 0)), (3, .ref (L 50 0)), (4, .int x4)]) hx hb d_l_law_541 hl (by decide) rfl (fun ls hl => ?_)
  refine lv_aload_n hx hb d_l_law_543 rfl (lv_at hl 3 rfl) ?_
  refine lv_aload_n hx hb d_l_law_544 rfl (lv_at hl 1 rfl) ?_
  refine lv_iload hx hb d_l_law_545 (lv_at hl 5 rfl) ?_
  refine lv_iconst (v := 1) hx hb d_l_law_547 (by decide) ?_
  refine lv_iadd hx hb d_l_law_548 ?_
  obtain ⟨g85, hF⟩ := f_gd_some hF
  refine va_sld hx hb hX hbl hbA hS (f_ib_in g85) d_l_law_549 ?_
  obtain ⟨v86, z86, hc86, hF⟩ := f_bd_some hF
  refine hw_VR (k := 30) (i := 0) (nk := 1) (As := [.int (xs (f_ix (x4 + 1)))]) (rest := []) hx hb hml hown hts (c_m_weigh_ok l hl0 hLi (xs (f_ix (x4 + 1)))  _ _ _ hc86) st_l_111 (by decide) rfl (by omega) rfl rfl hK hZ hsz hS hW rfl hl.1 (Nat.le_of_ble_eq_true rfl) d_l_law_550 (by omega) (by omega) (by omega) (by omega) (fun H locs hW hS => ?_)
  refine lv_istore (lv' := [(6, .int v86), (5, .int v84), (0, .ref b), (1, .ref (L 0 0)), (2, .ref (L 30 0)), (3, .ref (L 50 0)), (4, .int x4)]) hx hb d_l_law_553 hl (by decide) rfl (fun ls hl => ?_)
  refine lv_aload_n hx hb d_l_law_555 rfl (lv_at hl 4 rfl) ?_
  obtain ⟨v87, z87, hc87, hF⟩ := f_bd_some hF
  refine hw_VR (k := 30) (i := 0) (nk := 1) (As := []) (rest := []) hx hb hml hown hts (c_m_thrown_ok l hl0 hLi   _ _ _ hc87) st_l_92 (by decide) rfl (by omega) rfl rfl hK hZ hsz hS hW rfl hl.1 (Nat.le_of_ble_eq_true rfl) d_l_law_556 (by omega) (by omega) (by omega) (by omega) (fun H locs hW hS => ?_)
  refine lv_iload hx hb d_l_law_559 (lv_at hl 1 rfl) ?_
  refine lv_icmp_eq (tgt := 566) hx hb d_l_law_561 (by decide) (fun h88 => ?_) (fun h88 => ?_)
  · replace hF := (if_pos h88).symm.trans hF
    refine lv_iload hx hb d_l_law_566 (lv_at hl 1 rfl) ?_
    refine lv_if_ne (tgt := 590) hx hb d_l_law_568 (by decide) (fun h89 => ?_) (fun h89 => ?_)
    · replace hF := (if_neg h89).symm.trans hF
      exact law_B590 l hl0 hLi hx hb hr hlk hml hts hown hK hZ hsz hb0 hX hbl hbA z' N k23 K23 x4 z87 hF _ _ _ _ _ hW hS (lv_sub hl [2, 3, 4, 5, 6] rfl) (by omega) (by omega)
    · replace hF := (if_pos h89).symm.trans hF
      refine lv_aload_n hx hb d_l_law_571 rfl (lv_at hl 5 rfl) ?_
      refine lv_iconst (v := 0) hx hb d_l_law_572 (by decide) ?_
      refine hw_lald hx hb hK hW d_l_law_573 ?_
      refine lv_iload hx hb d_l_law_574 (lv_at hl 0 rfl) ?_
      refine lv_if_eq (tgt := 583) hx hb d_l_law_576 (by decide) (fun h90 => ?_) (fun h90 => ?_)
      · replace hF := (if_pos h90).symm.trans hF
        refine lv_lconst (v := 0) hx hb d_l_law_583 (by decide) ?_
        exact law_B584 l hl0 hLi hx hb hr hlk hml hts hown hK hZ hsz hb0 hX hbl hbA z' N k23 K23 x4 (f_gO z87) 0 z87 hF _ _ _ _ _ hW hS (lv_sub hl [2, 3, 4, 5, 6] rfl) (by omega) (by omega)
      · replace hF := (if_neg h90).symm.trans hF
        refine lv_lconst (v := 1) hx hb d_l_law_579 (by decide) ?_
        refine lv_goto (tgt := 584) hx hb d_l_law_580 (by decide) ?_
        exact law_B584 l hl0 hLi hx hb hr hlk hml hts hown hK hZ hsz hb0 hX hbl hbA z' N k23 K23 x4 (f_gO z87) 1 z87 hF _ _ _ _ _ hW hS (lv_sub hl [2, 3, 4, 5, 6] rfl) (by omega) (by omega)
  · replace hF := (if_neg h88).symm.trans hF
    refine lv_iconst (v := 0) hx hb d_l_law_564 (by decide) ?_
    exact hw_lawret hx hb hr hlk hS hb0 (by omega) (by omega) d_l_law_565 hF
set_option maxRecDepth 100000 in
set_option maxHeartbeats 4000000 in
theorem law_B527 (l : Launch) (hl0 : l.stackTraces = false) {L : Nat → Nat → Nat} {Ar : Nat → ClassId} {D : va_G} {b0 : Nat} (hLi : f_L L b0) {p : Program} {e : Env} {s : State} {m : MethodId} {below : List Frame} {meth : Method} {c : Code} {b xn : Nat} {xs : Nat → Int32} (hx : p.tables.exec = Jvm.exec) (hb : c.code = code) (hr : meth.sig.returnType = ret) (hlk : meth.locks = false) (hml : c.maxLocals = 7) (hts : ∀ w ∈ wt, w.before #[Value.ref b] s = true) (hown : s.vm.findClass "BottleReturnLaw" = some m.cls) (hK : f_K Ar D s) (hZ : f_Z b0 s s.heap) (hsz : b0 ≤ s.heap.size) (hb0 : s.heap.size ≤ b0) (hX : va_X b xn xs s s.heap) (hbl : b < s.heap.size) (hbA : ¬ f_A b0 b) (z' : fST) (N : Nat) (k23 : Int32 × fST → Option (Int32 × fST)) (K23 : ∀ (x4 : Int32) (z : fST), k23 (x4, z) = some (1, z') → f_B p l e room_1 s m #[Value.ref b] below meth c L Ar D b0 7 600000 (lw_Z below #[Value.ref b] s) N 23 [(0, .ref b), (1, .ref (L 0 0)), (2, .ref (L 30 0)), (3, .ref (L 50 0)), (4, .int x4)] [] z) (x4 : Int32) (z : fST) (hF : b_l_law_527 xn xs k23 x4 z = some (1, z')) : f_B p l e room_1 s m #[Value.ref b] below meth c L Ar D b0 7 600000 (lw_Z below #[Value.ref b] s) (N + 0) 527 [(0, .ref b), (1, .ref (L 0 0)), (2, .ref (L 30 0)), (3, .ref (L 50 0)), (4, .int x4)] [] z := by
  have hRf : room_1.frames = 11 := rfl
  have hRl : room_1.locals = 404 := rfl
  have hRc : room_1.cells = 601024 := rfl
  have hRs : room_1.slots = 7293034 := rfl
  intro H locs ls cells slots hW hS hl hc hs
  unfold b_l_law_527 at hF
  refine lv_goto (tgt := 1421) hx hb d_l_law_527 (by decide) ?_
  exact law_B1421 l hl0 hLi hx hb hr hlk hml hts hown hK hZ hsz hb0 hX hbl hbA z' N k23 K23 x4 z hF _ _ _ _ _ hW hS (lv_sub hl [0, 1, 2, 3, 4] rfl) (by omega) (by omega)
set_option maxRecDepth 100000 in
set_option maxHeartbeats 4000000 in
theorem law_B521 (l : Launch) (hl0 : l.stackTraces = false) {L : Nat → Nat → Nat} {Ar : Nat → ClassId} {D : va_G} {b0 : Nat} (hLi : f_L L b0) {p : Program} {e : Env} {s : State} {m : MethodId} {below : List Frame} {meth : Method} {c : Code} {b xn : Nat} {xs : Nat → Int32} (hx : p.tables.exec = Jvm.exec) (hb : c.code = code) (hr : meth.sig.returnType = ret) (hlk : meth.locks = false) (hml : c.maxLocals = 7) (hts : ∀ w ∈ wt, w.before #[Value.ref b] s = true) (hown : s.vm.findClass "BottleReturnLaw" = some m.cls) (hK : f_K Ar D s) (hZ : f_Z b0 s s.heap) (hsz : b0 ≤ s.heap.size) (hb0 : s.heap.size ≤ b0) (hX : va_X b xn xs s s.heap) (hbl : b < s.heap.size) (hbA : ¬ f_A b0 b) (z' : fST) (N : Nat) (k23 : Int32 × fST → Option (Int32 × fST)) (K23 : ∀ (x4 : Int32) (z : fST), k23 (x4, z) = some (1, z') → f_B p l e room_1 s m #[Value.ref b] below meth c L Ar D b0 7 600000 (lw_Z below #[Value.ref b] s) N 23 [(0, .ref b), (1, .ref (L 0 0)), (2, .ref (L 30 0)), (3, .ref (L 50 0)), (4, .int x4)] [] z) (x4 : Int32) (y0 : Int64) (y1 : Int64) (z : fST) (hF : b_l_law_521 xn xs k23 x4 y0 y1 z = some (1, z')) : f_B p l e room_1 s m #[Value.ref b] below meth c L Ar D b0 7 600000 (lw_Z below #[Value.ref b] s) (N + 0) 521 [(0, .ref b), (1, .ref (L 0 0)), (2, .ref (L 30 0)), (3, .ref (L 50 0)), (4, .int x4)] [.long y1, .long y0] z := by
  have hRf : room_1.frames = 11 := rfl
  have hRl : room_1.locals = 404 := rfl
  have hRc : room_1.cells = 601024 := rfl
  have hRs : room_1.slots = 7293034 := rfl
  intro H locs ls cells slots hW hS hl hc hs
  unfold b_l_law_521 at hF
  refine W.lcmp hx hb d_l_law_521 ?_
  refine lv_if_eq (tgt := 527) hx hb d_l_law_522 (by decide) (fun h212 => ?_) (fun h212 => ?_)
  · replace hF := (if_pos h212).symm.trans hF
    exact law_B527 l hl0 hLi hx hb hr hlk hml hts hown hK hZ hsz hb0 hX hbl hbA z' N k23 K23 x4 z hF _ _ _ _ _ hW hS (lv_sub hl [0, 1, 2, 3, 4] rfl) (by omega) (by omega)
  · replace hF := (if_neg h212).symm.trans hF
    refine lv_iconst (v := 0) hx hb d_l_law_525 (by decide) ?_
    exact hw_lawret hx hb hr hlk hS hb0 (by omega) (by omega) d_l_law_526 hF
set_option maxRecDepth 100000 in
set_option maxHeartbeats 4000000 in
theorem law_B467 (l : Launch) (hl0 : l.stackTraces = false) {L : Nat → Nat → Nat} {Ar : Nat → ClassId} {D : va_G} {b0 : Nat} (hLi : f_L L b0) {p : Program} {e : Env} {s : State} {m : MethodId} {below : List Frame} {meth : Method} {c : Code} {b xn : Nat} {xs : Nat → Int32} (hx : p.tables.exec = Jvm.exec) (hb : c.code = code) (hr : meth.sig.returnType = ret) (hlk : meth.locks = false) (hml : c.maxLocals = 7) (hts : ∀ w ∈ wt, w.before #[Value.ref b] s = true) (hown : s.vm.findClass "BottleReturnLaw" = some m.cls) (hK : f_K Ar D s) (hZ : f_Z b0 s s.heap) (hsz : b0 ≤ s.heap.size) (hb0 : s.heap.size ≤ b0) (hX : va_X b xn xs s s.heap) (hbl : b < s.heap.size) (hbA : ¬ f_A b0 b) (z' : fST) (N : Nat) (k23 : Int32 × fST → Option (Int32 × fST)) (K23 : ∀ (x4 : Int32) (z : fST), k23 (x4, z) = some (1, z') → f_B p l e room_1 s m #[Value.ref b] below meth c L Ar D b0 7 600000 (lw_Z below #[Value.ref b] s) N 23 [(0, .ref b), (1, .ref (L 0 0)), (2, .ref (L 30 0)), (3, .ref (L 50 0)), (4, .int x4)] [] z) (x4 : Int32) (z : fST) (hF : b_l_law_467 xn xs k23 x4 z = some (1, z')) : f_B p l e room_1 s m #[Value.ref b] below meth c L Ar D b0 7 600000 (lw_Z below #[Value.ref b] s) (N + 2) 467 [(0, .ref b), (1, .ref (L 0 0)), (2, .ref (L 30 0)), (3, .ref (L 50 0)), (4, .int x4)] [] z := by
  have hRf : room_1.frames = 11 := rfl
  have hRl : room_1.locals = 404 := rfl
  have hRc : room_1.cells = 601024 := rfl
  have hRs : room_1.slots = 7293034 := rfl
  intro H locs ls cells slots hW hS hl hc hs
  unfold b_l_law_467 at hF
  refine lv_aload_n hx hb d_l_law_467 rfl (lv_at hl 1 rfl) ?_
  refine lv_aload_n hx hb d_l_law_468 rfl (lv_at hl 0 rfl) ?_
  refine lv_iload hx hb d_l_law_469 (lv_at hl 4 rfl) ?_
  refine lv_iconst (v := 1) hx hb d_l_law_471 (by decide) ?_
  refine lv_iadd hx hb d_l_law_472 ?_
  obtain ⟨g75, hF⟩ := f_gd_some hF
  refine va_sld hx hb hX hbl hbA hS (f_ib_in g75) d_l_law_473 ?_
  refine lv_aload_n hx hb d_l_law_474 rfl (lv_at hl 3 rfl) ?_
  obtain ⟨v76, z76, hc76, hF⟩ := f_bd_some hF
  refine hw_SW (As := [.ref (L 0 0), .int (xs (f_ix (x4 + 1))), .ref (L 50 0)]) (rest := []) hx hb hml hown hts (c_l_width_ok l hl0 hLi (xs (f_ix (x4 + 1)))  _ _ _ hc76) st_l_106 hK hZ hsz hS hW rfl hl.1 (Nat.le_of_ble_eq_true rfl) d_l_law_475 (by omega) (by omega) (by omega) (by omega) (fun H locs hW hS => ?_)
  refine lv_istore (lv' := [(5, .int v76), (0, .ref b), (1, .ref (L 0 0)), (2, .ref (L 30 0)), (3, .ref (L 50 0)), (4, .int x4)]) hx hb d_l_law_478 hl (by decide) rfl (fun ls hl => ?_)
  refine lv_aload_n hx hb d_l_law_480 rfl (lv_at hl 3 rfl) ?_
  refine lv_aload_n hx hb d_l_law_481 rfl (lv_at hl 1 rfl) ?_
  refine lv_iload hx hb d_l_law_482 (lv_at hl 5 rfl) ?_
  refine lv_iconst (v := 1) hx hb d_l_law_484 (by decide) ?_
  refine lv_iadd hx hb d_l_law_485 ?_
  obtain ⟨g77, hF⟩ := f_gd_some hF
  refine va_sld hx hb hX hbl hbA hS (f_ib_in g77) d_l_law_486 ?_
  obtain ⟨v78, z78, hc78, hF⟩ := f_bd_some hF
  refine hw_VR (k := 30) (i := 0) (nk := 1) (As := [.int (xs (f_ix (x4 + 1)))]) (rest := []) hx hb hml hown hts (c_m_width_ok l hl0 hLi (xs (f_ix (x4 + 1)))  _ _ _ hc78) st_l_108 (by decide) rfl (by omega) rfl rfl hK hZ hsz hS hW rfl hl.1 (Nat.le_of_ble_eq_true rfl) d_l_law_487 (by omega) (by omega) (by omega) (by omega) (fun H locs hW hS => ?_)
  refine lv_istore (lv' := [(6, .int v78), (5, .int v76), (0, .ref b), (1, .ref (L 0 0)), (2, .ref (L 30 0)), (3, .ref (L 50 0)), (4, .int x4)]) hx hb d_l_law_490 hl (by decide) rfl (fun ls hl => ?_)
  refine lv_aload_n hx hb d_l_law_492 rfl (lv_at hl 4 rfl) ?_
  obtain ⟨v79, z79, hc79, hF⟩ := f_bd_some hF
  refine hw_VR (k := 30) (i := 0) (nk := 1) (As := []) (rest := []) hx hb hml hown hts (c_m_thrown_ok l hl0 hLi   _ _ _ hc79) st_l_92 (by decide) rfl (by omega) rfl rfl hK hZ hsz hS hW rfl hl.1 (Nat.le_of_ble_eq_true rfl) d_l_law_493 (by omega) (by omega) (by omega) (by omega) (fun H locs hW hS => ?_)
  refine lv_iload hx hb d_l_law_496 (lv_at hl 1 rfl) ?_
  refine lv_icmp_eq (tgt := 503) hx hb d_l_law_498 (by decide) (fun h80 => ?_) (fun h80 => ?_)
  · replace hF := (if_pos h80).symm.trans hF
    refine lv_iload hx hb d_l_law_503 (lv_at hl 1 rfl) ?_
    refine lv_if_ne (tgt := 527) hx hb d_l_law_505 (by decide) (fun h81 => ?_) (fun h81 => ?_)
    · replace hF := (if_neg h81).symm.trans hF
      exact law_B527 l hl0 hLi hx hb hr hlk hml hts hown hK hZ hsz hb0 hX hbl hbA z' N k23 K23 x4 z79 hF _ _ _ _ _ hW hS (lv_sub hl [2, 3, 4, 5, 6] rfl) (by omega) (by omega)
    · replace hF := (if_pos h81).symm.trans hF
      refine lv_aload_n hx hb d_l_law_508 rfl (lv_at hl 5 rfl) ?_
      refine lv_iconst (v := 0) hx hb d_l_law_509 (by decide) ?_
      refine hw_lald hx hb hK hW d_l_law_510 ?_
      refine lv_iload hx hb d_l_law_511 (lv_at hl 0 rfl) ?_
      refine lv_if_eq (tgt := 520) hx hb d_l_law_513 (by decide) (fun h82 => ?_) (fun h82 => ?_)
      · replace hF := (if_pos h82).symm.trans hF
        refine lv_lconst (v := 0) hx hb d_l_law_520 (by decide) ?_
        exact law_B521 l hl0 hLi hx hb hr hlk hml hts hown hK hZ hsz hb0 hX hbl hbA z' N k23 K23 x4 (f_gO z79) 0 z79 hF _ _ _ _ _ hW hS (lv_sub hl [2, 3, 4, 5, 6] rfl) (by omega) (by omega)
      · replace hF := (if_neg h82).symm.trans hF
        refine lv_lconst (v := 1) hx hb d_l_law_516 (by decide) ?_
        refine lv_goto (tgt := 521) hx hb d_l_law_517 (by decide) ?_
        exact law_B521 l hl0 hLi hx hb hr hlk hml hts hown hK hZ hsz hb0 hX hbl hbA z' N k23 K23 x4 (f_gO z79) 1 z79 hF _ _ _ _ _ hW hS (lv_sub hl [2, 3, 4, 5, 6] rfl) (by omega) (by omega)
  · replace hF := (if_neg h80).symm.trans hF
    refine lv_iconst (v := 0) hx hb d_l_law_501 (by decide) ?_
    exact hw_lawret hx hb hr hlk hS hb0 (by omega) (by omega) d_l_law_502 hF
set_option maxRecDepth 100000 in
set_option maxHeartbeats 4000000 in
theorem law_B464 (l : Launch) (hl0 : l.stackTraces = false) {L : Nat → Nat → Nat} {Ar : Nat → ClassId} {D : va_G} {b0 : Nat} (hLi : f_L L b0) {p : Program} {e : Env} {s : State} {m : MethodId} {below : List Frame} {meth : Method} {c : Code} {b xn : Nat} {xs : Nat → Int32} (hx : p.tables.exec = Jvm.exec) (hb : c.code = code) (hr : meth.sig.returnType = ret) (hlk : meth.locks = false) (hml : c.maxLocals = 7) (hts : ∀ w ∈ wt, w.before #[Value.ref b] s = true) (hown : s.vm.findClass "BottleReturnLaw" = some m.cls) (hK : f_K Ar D s) (hZ : f_Z b0 s s.heap) (hsz : b0 ≤ s.heap.size) (hb0 : s.heap.size ≤ b0) (hX : va_X b xn xs s s.heap) (hbl : b < s.heap.size) (hbA : ¬ f_A b0 b) (z' : fST) (N : Nat) (k23 : Int32 × fST → Option (Int32 × fST)) (K23 : ∀ (x4 : Int32) (z : fST), k23 (x4, z) = some (1, z') → f_B p l e room_1 s m #[Value.ref b] below meth c L Ar D b0 7 600000 (lw_Z below #[Value.ref b] s) N 23 [(0, .ref b), (1, .ref (L 0 0)), (2, .ref (L 30 0)), (3, .ref (L 50 0)), (4, .int x4)] [] z) (x4 : Int32) (z : fST) (hF : b_l_law_464 xn xs k23 x4 z = some (1, z')) : f_B p l e room_1 s m #[Value.ref b] below meth c L Ar D b0 7 600000 (lw_Z below #[Value.ref b] s) (N + 0) 464 [(0, .ref b), (1, .ref (L 0 0)), (2, .ref (L 30 0)), (3, .ref (L 50 0)), (4, .int x4)] [] z := by
  have hRf : room_1.frames = 11 := rfl
  have hRl : room_1.locals = 404 := rfl
  have hRc : room_1.cells = 601024 := rfl
  have hRs : room_1.slots = 7293034 := rfl
  intro H locs ls cells slots hW hS hl hc hs
  unfold b_l_law_464 at hF
  refine lv_goto (tgt := 1421) hx hb d_l_law_464 (by decide) ?_
  exact law_B1421 l hl0 hLi hx hb hr hlk hml hts hown hK hZ hsz hb0 hX hbl hbA z' N k23 K23 x4 z hF _ _ _ _ _ hW hS (lv_sub hl [0, 1, 2, 3, 4] rfl) (by omega) (by omega)
set_option maxRecDepth 100000 in
set_option maxHeartbeats 4000000 in
theorem law_B458 (l : Launch) (hl0 : l.stackTraces = false) {L : Nat → Nat → Nat} {Ar : Nat → ClassId} {D : va_G} {b0 : Nat} (hLi : f_L L b0) {p : Program} {e : Env} {s : State} {m : MethodId} {below : List Frame} {meth : Method} {c : Code} {b xn : Nat} {xs : Nat → Int32} (hx : p.tables.exec = Jvm.exec) (hb : c.code = code) (hr : meth.sig.returnType = ret) (hlk : meth.locks = false) (hml : c.maxLocals = 7) (hts : ∀ w ∈ wt, w.before #[Value.ref b] s = true) (hown : s.vm.findClass "BottleReturnLaw" = some m.cls) (hK : f_K Ar D s) (hZ : f_Z b0 s s.heap) (hsz : b0 ≤ s.heap.size) (hb0 : s.heap.size ≤ b0) (hX : va_X b xn xs s s.heap) (hbl : b < s.heap.size) (hbA : ¬ f_A b0 b) (z' : fST) (N : Nat) (k23 : Int32 × fST → Option (Int32 × fST)) (K23 : ∀ (x4 : Int32) (z : fST), k23 (x4, z) = some (1, z') → f_B p l e room_1 s m #[Value.ref b] below meth c L Ar D b0 7 600000 (lw_Z below #[Value.ref b] s) N 23 [(0, .ref b), (1, .ref (L 0 0)), (2, .ref (L 30 0)), (3, .ref (L 50 0)), (4, .int x4)] [] z) (x4 : Int32) (y0 : Int64) (y1 : Int64) (z : fST) (hF : b_l_law_458 xn xs k23 x4 y0 y1 z = some (1, z')) : f_B p l e room_1 s m #[Value.ref b] below meth c L Ar D b0 7 600000 (lw_Z below #[Value.ref b] s) (N + 0) 458 [(0, .ref b), (1, .ref (L 0 0)), (2, .ref (L 30 0)), (3, .ref (L 50 0)), (4, .int x4)] [.long y1, .long y0] z := by
  have hRf : room_1.frames = 11 := rfl
  have hRl : room_1.locals = 404 := rfl
  have hRc : room_1.cells = 601024 := rfl
  have hRs : room_1.slots = 7293034 := rfl
  intro H locs ls cells slots hW hS hl hc hs
  unfold b_l_law_458 at hF
  refine W.lcmp hx hb d_l_law_458 ?_
  refine lv_if_eq (tgt := 464) hx hb d_l_law_459 (by decide) (fun h211 => ?_) (fun h211 => ?_)
  · replace hF := (if_pos h211).symm.trans hF
    exact law_B464 l hl0 hLi hx hb hr hlk hml hts hown hK hZ hsz hb0 hX hbl hbA z' N k23 K23 x4 z hF _ _ _ _ _ hW hS (lv_sub hl [0, 1, 2, 3, 4] rfl) (by omega) (by omega)
  · replace hF := (if_neg h211).symm.trans hF
    refine lv_iconst (v := 0) hx hb d_l_law_462 (by decide) ?_
    exact hw_lawret hx hb hr hlk hS hb0 (by omega) (by omega) d_l_law_463 hF
set_option maxRecDepth 100000 in
set_option maxHeartbeats 4000000 in
theorem law_B404 (l : Launch) (hl0 : l.stackTraces = false) {L : Nat → Nat → Nat} {Ar : Nat → ClassId} {D : va_G} {b0 : Nat} (hLi : f_L L b0) {p : Program} {e : Env} {s : State} {m : MethodId} {below : List Frame} {meth : Method} {c : Code} {b xn : Nat} {xs : Nat → Int32} (hx : p.tables.exec = Jvm.exec) (hb : c.code = code) (hr : meth.sig.returnType = ret) (hlk : meth.locks = false) (hml : c.maxLocals = 7) (hts : ∀ w ∈ wt, w.before #[Value.ref b] s = true) (hown : s.vm.findClass "BottleReturnLaw" = some m.cls) (hK : f_K Ar D s) (hZ : f_Z b0 s s.heap) (hsz : b0 ≤ s.heap.size) (hb0 : s.heap.size ≤ b0) (hX : va_X b xn xs s s.heap) (hbl : b < s.heap.size) (hbA : ¬ f_A b0 b) (z' : fST) (N : Nat) (k23 : Int32 × fST → Option (Int32 × fST)) (K23 : ∀ (x4 : Int32) (z : fST), k23 (x4, z) = some (1, z') → f_B p l e room_1 s m #[Value.ref b] below meth c L Ar D b0 7 600000 (lw_Z below #[Value.ref b] s) N 23 [(0, .ref b), (1, .ref (L 0 0)), (2, .ref (L 30 0)), (3, .ref (L 50 0)), (4, .int x4)] [] z) (x4 : Int32) (z : fST) (hF : b_l_law_404 xn xs k23 x4 z = some (1, z')) : f_B p l e room_1 s m #[Value.ref b] below meth c L Ar D b0 7 600000 (lw_Z below #[Value.ref b] s) (N + 2) 404 [(0, .ref b), (1, .ref (L 0 0)), (2, .ref (L 30 0)), (3, .ref (L 50 0)), (4, .int x4)] [] z := by
  have hRf : room_1.frames = 11 := rfl
  have hRl : room_1.locals = 404 := rfl
  have hRc : room_1.cells = 601024 := rfl
  have hRs : room_1.slots = 7293034 := rfl
  intro H locs ls cells slots hW hS hl hc hs
  unfold b_l_law_404 at hF
  refine lv_aload_n hx hb d_l_law_404 rfl (lv_at hl 1 rfl) ?_
  refine lv_aload_n hx hb d_l_law_405 rfl (lv_at hl 0 rfl) ?_
  refine lv_iload hx hb d_l_law_406 (lv_at hl 4 rfl) ?_
  refine lv_iconst (v := 1) hx hb d_l_law_408 (by decide) ?_
  refine lv_iadd hx hb d_l_law_409 ?_
  obtain ⟨g67, hF⟩ := f_gd_some hF
  refine va_sld hx hb hX hbl hbA hS (f_ib_in g67) d_l_law_410 ?_
  refine lv_aload_n hx hb d_l_law_411 rfl (lv_at hl 3 rfl) ?_
  obtain ⟨v68, z68, hc68, hF⟩ := f_bd_some hF
  refine hw_SW (As := [.ref (L 0 0), .int (xs (f_ix (x4 + 1))), .ref (L 50 0)]) (rest := []) hx hb hml hown hts (c_l_code_ok l hl0 hLi (xs (f_ix (x4 + 1)))  _ _ _ hc68) st_l_103 hK hZ hsz hS hW rfl hl.1 (Nat.le_of_ble_eq_true rfl) d_l_law_412 (by omega) (by omega) (by omega) (by omega) (fun H locs hW hS => ?_)
  refine lv_istore (lv' := [(5, .int v68), (0, .ref b), (1, .ref (L 0 0)), (2, .ref (L 30 0)), (3, .ref (L 50 0)), (4, .int x4)]) hx hb d_l_law_415 hl (by decide) rfl (fun ls hl => ?_)
  refine lv_aload_n hx hb d_l_law_417 rfl (lv_at hl 3 rfl) ?_
  refine lv_aload_n hx hb d_l_law_418 rfl (lv_at hl 1 rfl) ?_
  refine lv_iload hx hb d_l_law_419 (lv_at hl 5 rfl) ?_
  refine lv_iconst (v := 1) hx hb d_l_law_421 (by decide) ?_
  refine lv_iadd hx hb d_l_law_422 ?_
  obtain ⟨g69, hF⟩ := f_gd_some hF
  refine va_sld hx hb hX hbl hbA hS (f_ib_in g69) d_l_law_423 ?_
  obtain ⟨v70, z70, hc70, hF⟩ := f_bd_some hF
  refine hw_VR (k := 30) (i := 0) (nk := 1) (As := [.int (xs (f_ix (x4 + 1)))]) (rest := []) hx hb hml hown hts (c_m_code_ok l hl0 hLi (xs (f_ix (x4 + 1)))  _ _ _ hc70) st_l_105 (by decide) rfl (by omega) rfl rfl hK hZ hsz hS hW rfl hl.1 (Nat.le_of_ble_eq_true rfl) d_l_law_424 (by omega) (by omega) (by omega) (by omega) (fun H locs hW hS => ?_)
  refine lv_istore (lv' := [(6, .int v70), (5, .int v68), (0, .ref b), (1, .ref (L 0 0)), (2, .ref (L 30 0)), (3, .ref (L 50 0)), (4, .int x4)]) hx hb d_l_law_427 hl (by decide) rfl (fun ls hl => ?_)
  refine lv_aload_n hx hb d_l_law_429 rfl (lv_at hl 4 rfl) ?_
  obtain ⟨v71, z71, hc71, hF⟩ := f_bd_some hF
  refine hw_VR (k := 30) (i := 0) (nk := 1) (As := []) (rest := []) hx hb hml hown hts (c_m_thrown_ok l hl0 hLi   _ _ _ hc71) st_l_92 (by decide) rfl (by omega) rfl rfl hK hZ hsz hS hW rfl hl.1 (Nat.le_of_ble_eq_true rfl) d_l_law_430 (by omega) (by omega) (by omega) (by omega) (fun H locs hW hS => ?_)
  refine lv_iload hx hb d_l_law_433 (lv_at hl 1 rfl) ?_
  refine lv_icmp_eq (tgt := 440) hx hb d_l_law_435 (by decide) (fun h72 => ?_) (fun h72 => ?_)
  · replace hF := (if_pos h72).symm.trans hF
    refine lv_iload hx hb d_l_law_440 (lv_at hl 1 rfl) ?_
    refine lv_if_ne (tgt := 464) hx hb d_l_law_442 (by decide) (fun h73 => ?_) (fun h73 => ?_)
    · replace hF := (if_neg h73).symm.trans hF
      exact law_B464 l hl0 hLi hx hb hr hlk hml hts hown hK hZ hsz hb0 hX hbl hbA z' N k23 K23 x4 z71 hF _ _ _ _ _ hW hS (lv_sub hl [2, 3, 4, 5, 6] rfl) (by omega) (by omega)
    · replace hF := (if_pos h73).symm.trans hF
      refine lv_aload_n hx hb d_l_law_445 rfl (lv_at hl 5 rfl) ?_
      refine lv_iconst (v := 0) hx hb d_l_law_446 (by decide) ?_
      refine hw_lald hx hb hK hW d_l_law_447 ?_
      refine lv_iload hx hb d_l_law_448 (lv_at hl 0 rfl) ?_
      refine lv_if_eq (tgt := 457) hx hb d_l_law_450 (by decide) (fun h74 => ?_) (fun h74 => ?_)
      · replace hF := (if_pos h74).symm.trans hF
        refine lv_lconst (v := 0) hx hb d_l_law_457 (by decide) ?_
        exact law_B458 l hl0 hLi hx hb hr hlk hml hts hown hK hZ hsz hb0 hX hbl hbA z' N k23 K23 x4 (f_gO z71) 0 z71 hF _ _ _ _ _ hW hS (lv_sub hl [2, 3, 4, 5, 6] rfl) (by omega) (by omega)
      · replace hF := (if_neg h74).symm.trans hF
        refine lv_lconst (v := 1) hx hb d_l_law_453 (by decide) ?_
        refine lv_goto (tgt := 458) hx hb d_l_law_454 (by decide) ?_
        exact law_B458 l hl0 hLi hx hb hr hlk hml hts hown hK hZ hsz hb0 hX hbl hbA z' N k23 K23 x4 (f_gO z71) 1 z71 hF _ _ _ _ _ hW hS (lv_sub hl [2, 3, 4, 5, 6] rfl) (by omega) (by omega)
  · replace hF := (if_neg h72).symm.trans hF
    refine lv_iconst (v := 0) hx hb d_l_law_438 (by decide) ?_
    exact hw_lawret hx hb hr hlk hS hb0 (by omega) (by omega) d_l_law_439 hF
set_option maxRecDepth 100000 in
set_option maxHeartbeats 4000000 in
theorem law_B401 (l : Launch) (hl0 : l.stackTraces = false) {L : Nat → Nat → Nat} {Ar : Nat → ClassId} {D : va_G} {b0 : Nat} (hLi : f_L L b0) {p : Program} {e : Env} {s : State} {m : MethodId} {below : List Frame} {meth : Method} {c : Code} {b xn : Nat} {xs : Nat → Int32} (hx : p.tables.exec = Jvm.exec) (hb : c.code = code) (hr : meth.sig.returnType = ret) (hlk : meth.locks = false) (hml : c.maxLocals = 7) (hts : ∀ w ∈ wt, w.before #[Value.ref b] s = true) (hown : s.vm.findClass "BottleReturnLaw" = some m.cls) (hK : f_K Ar D s) (hZ : f_Z b0 s s.heap) (hsz : b0 ≤ s.heap.size) (hb0 : s.heap.size ≤ b0) (hX : va_X b xn xs s s.heap) (hbl : b < s.heap.size) (hbA : ¬ f_A b0 b) (z' : fST) (N : Nat) (k23 : Int32 × fST → Option (Int32 × fST)) (K23 : ∀ (x4 : Int32) (z : fST), k23 (x4, z) = some (1, z') → f_B p l e room_1 s m #[Value.ref b] below meth c L Ar D b0 7 600000 (lw_Z below #[Value.ref b] s) N 23 [(0, .ref b), (1, .ref (L 0 0)), (2, .ref (L 30 0)), (3, .ref (L 50 0)), (4, .int x4)] [] z) (x4 : Int32) (z : fST) (hF : b_l_law_401 xn xs k23 x4 z = some (1, z')) : f_B p l e room_1 s m #[Value.ref b] below meth c L Ar D b0 7 600000 (lw_Z below #[Value.ref b] s) (N + 0) 401 [(0, .ref b), (1, .ref (L 0 0)), (2, .ref (L 30 0)), (3, .ref (L 50 0)), (4, .int x4)] [] z := by
  have hRf : room_1.frames = 11 := rfl
  have hRl : room_1.locals = 404 := rfl
  have hRc : room_1.cells = 601024 := rfl
  have hRs : room_1.slots = 7293034 := rfl
  intro H locs ls cells slots hW hS hl hc hs
  unfold b_l_law_401 at hF
  refine lv_goto (tgt := 1421) hx hb d_l_law_401 (by decide) ?_
  exact law_B1421 l hl0 hLi hx hb hr hlk hml hts hown hK hZ hsz hb0 hX hbl hbA z' N k23 K23 x4 z hF _ _ _ _ _ hW hS (lv_sub hl [0, 1, 2, 3, 4] rfl) (by omega) (by omega)
set_option maxRecDepth 100000 in
set_option maxHeartbeats 4000000 in
theorem law_B348 (l : Launch) (hl0 : l.stackTraces = false) {L : Nat → Nat → Nat} {Ar : Nat → ClassId} {D : va_G} {b0 : Nat} (hLi : f_L L b0) {p : Program} {e : Env} {s : State} {m : MethodId} {below : List Frame} {meth : Method} {c : Code} {b xn : Nat} {xs : Nat → Int32} (hx : p.tables.exec = Jvm.exec) (hb : c.code = code) (hr : meth.sig.returnType = ret) (hlk : meth.locks = false) (hml : c.maxLocals = 7) (hts : ∀ w ∈ wt, w.before #[Value.ref b] s = true) (hown : s.vm.findClass "BottleReturnLaw" = some m.cls) (hK : f_K Ar D s) (hZ : f_Z b0 s s.heap) (hsz : b0 ≤ s.heap.size) (hb0 : s.heap.size ≤ b0) (hX : va_X b xn xs s s.heap) (hbl : b < s.heap.size) (hbA : ¬ f_A b0 b) (z' : fST) (N : Nat) (k23 : Int32 × fST → Option (Int32 × fST)) (K23 : ∀ (x4 : Int32) (z : fST), k23 (x4, z) = some (1, z') → f_B p l e room_1 s m #[Value.ref b] below meth c L Ar D b0 7 600000 (lw_Z below #[Value.ref b] s) N 23 [(0, .ref b), (1, .ref (L 0 0)), (2, .ref (L 30 0)), (3, .ref (L 50 0)), (4, .int x4)] [] z) (x4 : Int32) (z : fST) (hF : b_l_law_348 xn xs k23 x4 z = some (1, z')) : f_B p l e room_1 s m #[Value.ref b] below meth c L Ar D b0 7 600000 (lw_Z below #[Value.ref b] s) (N + 2) 348 [(0, .ref b), (1, .ref (L 0 0)), (2, .ref (L 30 0)), (3, .ref (L 50 0)), (4, .int x4)] [] z := by
  have hRf : room_1.frames = 11 := rfl
  have hRl : room_1.locals = 404 := rfl
  have hRc : room_1.cells = 601024 := rfl
  have hRs : room_1.slots = 7293034 := rfl
  intro H locs ls cells slots hW hS hl hc hs
  unfold b_l_law_348 at hF
  refine lv_aload_n hx hb d_l_law_348 rfl (lv_at hl 1 rfl) ?_
  refine lv_aload_n hx hb d_l_law_349 rfl (lv_at hl 0 rfl) ?_
  refine lv_iload hx hb d_l_law_350 (lv_at hl 4 rfl) ?_
  refine lv_iconst (v := 1) hx hb d_l_law_352 (by decide) ?_
  refine lv_iadd hx hb d_l_law_353 ?_
  obtain ⟨g59, hF⟩ := f_gd_some hF
  refine va_sld hx hb hX hbl hbA hS (f_ib_in g59) d_l_law_354 ?_
  refine lv_aload_n hx hb d_l_law_355 rfl (lv_at hl 3 rfl) ?_
  obtain ⟨v60, z60, hc60, hF⟩ := f_bd_some hF
  refine hw_SW (As := [.ref (L 0 0), .int (xs (f_ix (x4 + 1))), .ref (L 50 0)]) (rest := []) hx hb hml hown hts (c_l_enter_ok l hl0 hLi (xs (f_ix (x4 + 1)))  _ _ _ hc60) st_l_99 hK hZ hsz hS hW rfl hl.1 (Nat.le_of_ble_eq_true rfl) d_l_law_356 (by omega) (by omega) (by omega) (by omega) (fun H locs hW hS => ?_)
  refine lv_istore (lv' := [(5, .int v60), (0, .ref b), (1, .ref (L 0 0)), (2, .ref (L 30 0)), (3, .ref (L 50 0)), (4, .int x4)]) hx hb d_l_law_359 hl (by decide) rfl (fun ls hl => ?_)
  refine lv_aload_n hx hb d_l_law_361 rfl (lv_at hl 3 rfl) ?_
  refine lv_aload_n hx hb d_l_law_362 rfl (lv_at hl 1 rfl) ?_
  refine lv_iload hx hb d_l_law_363 (lv_at hl 5 rfl) ?_
  refine lv_iconst (v := 1) hx hb d_l_law_365 (by decide) ?_
  refine lv_iadd hx hb d_l_law_366 ?_
  obtain ⟨g61, hF⟩ := f_gd_some hF
  refine va_sld hx hb hX hbl hbA hS (f_ib_in g61) d_l_law_367 ?_
  obtain ⟨v62, z62, hc62, hF⟩ := f_bd_some hF
  refine hw_VR (k := 30) (i := 0) (nk := 1) (As := [.int (xs (f_ix (x4 + 1)))]) (rest := []) hx hb hml hown hts (c_m_enter_ok l hl0 hLi (xs (f_ix (x4 + 1)))  _ _ _ hc62) st_l_102 (by decide) rfl (by omega) rfl rfl hK hZ hsz hS hW rfl hl.1 (Nat.le_of_ble_eq_true rfl) d_l_law_368 (by omega) (by omega) (by omega) (by omega) (fun H locs hW hS => ?_)
  refine lv_istore (lv' := [(6, .int v62), (5, .int v60), (0, .ref b), (1, .ref (L 0 0)), (2, .ref (L 30 0)), (3, .ref (L 50 0)), (4, .int x4)]) hx hb d_l_law_371 hl (by decide) rfl (fun ls hl => ?_)
  refine lv_aload_n hx hb d_l_law_373 rfl (lv_at hl 4 rfl) ?_
  obtain ⟨v63, z63, hc63, hF⟩ := f_bd_some hF
  refine hw_VR (k := 30) (i := 0) (nk := 1) (As := []) (rest := []) hx hb hml hown hts (c_m_thrown_ok l hl0 hLi   _ _ _ hc63) st_l_92 (by decide) rfl (by omega) rfl rfl hK hZ hsz hS hW rfl hl.1 (Nat.le_of_ble_eq_true rfl) d_l_law_374 (by omega) (by omega) (by omega) (by omega) (fun H locs hW hS => ?_)
  refine lv_iload hx hb d_l_law_377 (lv_at hl 1 rfl) ?_
  refine lv_icmp_eq (tgt := 384) hx hb d_l_law_379 (by decide) (fun h64 => ?_) (fun h64 => ?_)
  · replace hF := (if_pos h64).symm.trans hF
    refine lv_iload hx hb d_l_law_384 (lv_at hl 1 rfl) ?_
    refine lv_if_ne (tgt := 401) hx hb d_l_law_386 (by decide) (fun h65 => ?_) (fun h65 => ?_)
    · replace hF := (if_neg h65).symm.trans hF
      exact law_B401 l hl0 hLi hx hb hr hlk hml hts hown hK hZ hsz hb0 hX hbl hbA z' N k23 K23 x4 z63 hF _ _ _ _ _ hW hS (lv_sub hl [2, 3, 4, 5, 6] rfl) (by omega) (by omega)
    · replace hF := (if_pos h65).symm.trans hF
      refine lv_aload_n hx hb d_l_law_389 rfl (lv_at hl 5 rfl) ?_
      refine lv_iconst (v := 0) hx hb d_l_law_390 (by decide) ?_
      refine hw_lald hx hb hK hW d_l_law_391 ?_
      refine lv_iload hx hb d_l_law_392 (lv_at hl 0 rfl) ?_
      refine lv_i2l hx hb d_l_law_394 rfl ?_
      refine W.lcmp hx hb d_l_law_395 ?_
      refine lv_if_eq (tgt := 401) hx hb d_l_law_396 (by decide) (fun h66 => ?_) (fun h66 => ?_)
      · replace hF := (if_pos h66).symm.trans hF
        exact law_B401 l hl0 hLi hx hb hr hlk hml hts hown hK hZ hsz hb0 hX hbl hbA z' N k23 K23 x4 z63 hF _ _ _ _ _ hW hS (lv_sub hl [2, 3, 4, 5, 6] rfl) (by omega) (by omega)
      · replace hF := (if_neg h66).symm.trans hF
        refine lv_iconst (v := 0) hx hb d_l_law_399 (by decide) ?_
        exact hw_lawret hx hb hr hlk hS hb0 (by omega) (by omega) d_l_law_400 hF
  · replace hF := (if_neg h64).symm.trans hF
    refine lv_iconst (v := 0) hx hb d_l_law_382 (by decide) ?_
    exact hw_lawret hx hb hr hlk hS hb0 (by omega) (by omega) d_l_law_383 hF
set_option maxRecDepth 100000 in
set_option maxHeartbeats 4000000 in
theorem law_B345 (l : Launch) (hl0 : l.stackTraces = false) {L : Nat → Nat → Nat} {Ar : Nat → ClassId} {D : va_G} {b0 : Nat} (hLi : f_L L b0) {p : Program} {e : Env} {s : State} {m : MethodId} {below : List Frame} {meth : Method} {c : Code} {b xn : Nat} {xs : Nat → Int32} (hx : p.tables.exec = Jvm.exec) (hb : c.code = code) (hr : meth.sig.returnType = ret) (hlk : meth.locks = false) (hml : c.maxLocals = 7) (hts : ∀ w ∈ wt, w.before #[Value.ref b] s = true) (hown : s.vm.findClass "BottleReturnLaw" = some m.cls) (hK : f_K Ar D s) (hZ : f_Z b0 s s.heap) (hsz : b0 ≤ s.heap.size) (hb0 : s.heap.size ≤ b0) (hX : va_X b xn xs s s.heap) (hbl : b < s.heap.size) (hbA : ¬ f_A b0 b) (z' : fST) (N : Nat) (k23 : Int32 × fST → Option (Int32 × fST)) (K23 : ∀ (x4 : Int32) (z : fST), k23 (x4, z) = some (1, z') → f_B p l e room_1 s m #[Value.ref b] below meth c L Ar D b0 7 600000 (lw_Z below #[Value.ref b] s) N 23 [(0, .ref b), (1, .ref (L 0 0)), (2, .ref (L 30 0)), (3, .ref (L 50 0)), (4, .int x4)] [] z) (x4 : Int32) (z : fST) (hF : b_l_law_345 xn xs k23 x4 z = some (1, z')) : f_B p l e room_1 s m #[Value.ref b] below meth c L Ar D b0 7 600000 (lw_Z below #[Value.ref b] s) (N + 0) 345 [(0, .ref b), (1, .ref (L 0 0)), (2, .ref (L 30 0)), (3, .ref (L 50 0)), (4, .int x4)] [] z := by
  have hRf : room_1.frames = 11 := rfl
  have hRl : room_1.locals = 404 := rfl
  have hRc : room_1.cells = 601024 := rfl
  have hRs : room_1.slots = 7293034 := rfl
  intro H locs ls cells slots hW hS hl hc hs
  unfold b_l_law_345 at hF
  refine lv_goto (tgt := 1421) hx hb d_l_law_345 (by decide) ?_
  exact law_B1421 l hl0 hLi hx hb hr hlk hml hts hown hK hZ hsz hb0 hX hbl hbA z' N k23 K23 x4 z hF _ _ _ _ _ hW hS (lv_sub hl [0, 1, 2, 3, 4] rfl) (by omega) (by omega)
set_option maxRecDepth 100000 in
set_option maxHeartbeats 4000000 in
theorem law_B216 (l : Launch) (hl0 : l.stackTraces = false) {L : Nat → Nat → Nat} {Ar : Nat → ClassId} {D : va_G} {b0 : Nat} (hLi : f_L L b0) {p : Program} {e : Env} {s : State} {m : MethodId} {below : List Frame} {meth : Method} {c : Code} {b xn : Nat} {xs : Nat → Int32} (hx : p.tables.exec = Jvm.exec) (hb : c.code = code) (hr : meth.sig.returnType = ret) (hlk : meth.locks = false) (hml : c.maxLocals = 7) (hts : ∀ w ∈ wt, w.before #[Value.ref b] s = true) (hown : s.vm.findClass "BottleReturnLaw" = some m.cls) (hK : f_K Ar D s) (hZ : f_Z b0 s s.heap) (hsz : b0 ≤ s.heap.size) (hb0 : s.heap.size ≤ b0) (hX : va_X b xn xs s s.heap) (hbl : b < s.heap.size) (hbA : ¬ f_A b0 b) (z' : fST) (N : Nat) (k23 : Int32 × fST → Option (Int32 × fST)) (K23 : ∀ (x4 : Int32) (z : fST), k23 (x4, z) = some (1, z') → f_B p l e room_1 s m #[Value.ref b] below meth c L Ar D b0 7 600000 (lw_Z below #[Value.ref b] s) N 23 [(0, .ref b), (1, .ref (L 0 0)), (2, .ref (L 30 0)), (3, .ref (L 50 0)), (4, .int x4)] [] z) (x4 : Int32) (z : fST) (hF : b_l_law_216 xn xs k23 x4 z = some (1, z')) : f_B p l e room_1 s m #[Value.ref b] below meth c L Ar D b0 7 600000 (lw_Z below #[Value.ref b] s) (N + 9) 216 [(0, .ref b), (1, .ref (L 0 0)), (2, .ref (L 30 0)), (3, .ref (L 50 0)), (4, .int x4)] [] z := by
  have hRf : room_1.frames = 11 := rfl
  have hRl : room_1.locals = 404 := rfl
  have hRc : room_1.cells = 601024 := rfl
  have hRs : room_1.slots = 7293034 := rfl
  intro H locs ls cells slots hW hS hl hc hs
  unfold b_l_law_216 at hF
  refine lv_aload_n hx hb d_l_law_216 rfl (lv_at hl 1 rfl) ?_
  refine lv_aload_n hx hb d_l_law_217 rfl (lv_at hl 0 rfl) ?_
  refine lv_iload hx hb d_l_law_218 (lv_at hl 4 rfl) ?_
  refine lv_iconst (v := 1) hx hb d_l_law_220 (by decide) ?_
  refine lv_iadd hx hb d_l_law_221 ?_
  obtain ⟨g39, hF⟩ := f_gd_some hF
  refine va_sld hx hb hX hbl hbA hS (f_ib_in g39) d_l_law_222 ?_
  refine lv_aload_n hx hb d_l_law_223 rfl (lv_at hl 0 rfl) ?_
  refine lv_iload hx hb d_l_law_224 (lv_at hl 4 rfl) ?_
  refine lv_iconst (v := 2) hx hb d_l_law_226 (by decide) ?_
  refine lv_iadd hx hb d_l_law_227 ?_
  obtain ⟨g40, hF⟩ := f_gd_some hF
  refine va_sld hx hb hX hbl hbA hS (f_ib_in g40) d_l_law_228 ?_
  refine lv_aload_n hx hb d_l_law_229 rfl (lv_at hl 0 rfl) ?_
  refine lv_iload hx hb d_l_law_230 (lv_at hl 4 rfl) ?_
  refine lv_iconst (v := 3) hx hb d_l_law_232 (by decide) ?_
  refine lv_iadd hx hb d_l_law_233 ?_
  obtain ⟨g41, hF⟩ := f_gd_some hF
  refine va_sld hx hb hX hbl hbA hS (f_ib_in g41) d_l_law_234 ?_
  refine lv_aload_n hx hb d_l_law_235 rfl (lv_at hl 0 rfl) ?_
  refine lv_iload hx hb d_l_law_236 (lv_at hl 4 rfl) ?_
  refine lv_iconst (v := 4) hx hb d_l_law_238 (by decide) ?_
  refine lv_iadd hx hb d_l_law_239 ?_
  obtain ⟨g42, hF⟩ := f_gd_some hF
  refine va_sld hx hb hX hbl hbA hS (f_ib_in g42) d_l_law_240 ?_
  refine lv_aload_n hx hb d_l_law_241 rfl (lv_at hl 0 rfl) ?_
  refine lv_iload hx hb d_l_law_242 (lv_at hl 4 rfl) ?_
  refine lv_iconst (v := 5) hx hb d_l_law_244 (by decide) ?_
  refine lv_iadd hx hb d_l_law_245 ?_
  obtain ⟨g43, hF⟩ := f_gd_some hF
  refine va_sld hx hb hX hbl hbA hS (f_ib_in g43) d_l_law_246 ?_
  refine lv_aload_n hx hb d_l_law_247 rfl (lv_at hl 0 rfl) ?_
  refine lv_iload hx hb d_l_law_248 (lv_at hl 4 rfl) ?_
  refine lv_bipush (v := 6) hx hb d_l_law_250 (by decide) ?_
  refine lv_iadd hx hb d_l_law_252 ?_
  obtain ⟨g44, hF⟩ := f_gd_some hF
  refine va_sld hx hb hX hbl hbA hS (f_ib_in g44) d_l_law_253 ?_
  refine lv_aload_n hx hb d_l_law_254 rfl (lv_at hl 0 rfl) ?_
  refine lv_iload hx hb d_l_law_255 (lv_at hl 4 rfl) ?_
  refine lv_bipush (v := 7) hx hb d_l_law_257 (by decide) ?_
  refine lv_iadd hx hb d_l_law_259 ?_
  obtain ⟨g45, hF⟩ := f_gd_some hF
  refine va_sld hx hb hX hbl hbA hS (f_ib_in g45) d_l_law_260 ?_
  refine lv_aload_n hx hb d_l_law_261 rfl (lv_at hl 3 rfl) ?_
  obtain ⟨v46, z46, hc46, hF⟩ := f_bd_some hF
  refine hw_SW (As := [.ref (L 0 0), .int (xs (f_ix (x4 + 1))), .int (xs (f_ix (x4 + 2))), .int (xs (f_ix (x4 + 3))), .int (xs (f_ix (x4 + 4))), .int (xs (f_ix (x4 + 5))), .int (xs (f_ix (x4 + 6))), .int (xs (f_ix (x4 + 7))), .ref (L 50 0)]) (rest := []) hx hb hml hown hts (c_l_kind_ok l hl0 hLi (xs (f_ix (x4 + 1))) (xs (f_ix (x4 + 2))) (xs (f_ix (x4 + 3))) (xs (f_ix (x4 + 4))) (xs (f_ix (x4 + 5))) (xs (f_ix (x4 + 6))) (xs (f_ix (x4 + 7)))  _ _ _ hc46) st_l_95 hK hZ hsz hS hW rfl hl.1 (Nat.le_of_ble_eq_true rfl) d_l_law_262 (by omega) (by omega) (by omega) (by omega) (fun H locs hW hS => ?_)
  refine lv_istore (lv' := [(5, .int v46), (0, .ref b), (1, .ref (L 0 0)), (2, .ref (L 30 0)), (3, .ref (L 50 0)), (4, .int x4)]) hx hb d_l_law_265 hl (by decide) rfl (fun ls hl => ?_)
  refine lv_aload_n hx hb d_l_law_267 rfl (lv_at hl 3 rfl) ?_
  refine lv_aload_n hx hb d_l_law_268 rfl (lv_at hl 1 rfl) ?_
  refine lv_iload hx hb d_l_law_269 (lv_at hl 5 rfl) ?_
  refine lv_iconst (v := 1) hx hb d_l_law_271 (by decide) ?_
  refine lv_iadd hx hb d_l_law_272 ?_
  obtain ⟨g47, hF⟩ := f_gd_some hF
  refine va_sld hx hb hX hbl hbA hS (f_ib_in g47) d_l_law_273 ?_
  refine lv_aload_n hx hb d_l_law_274 rfl (lv_at hl 1 rfl) ?_
  refine lv_iload hx hb d_l_law_275 (lv_at hl 5 rfl) ?_
  refine lv_iconst (v := 2) hx hb d_l_law_277 (by decide) ?_
  refine lv_iadd hx hb d_l_law_278 ?_
  obtain ⟨g48, hF⟩ := f_gd_some hF
  refine va_sld hx hb hX hbl hbA hS (f_ib_in g48) d_l_law_279 ?_
  refine lv_aload_n hx hb d_l_law_280 rfl (lv_at hl 1 rfl) ?_
  refine lv_iload hx hb d_l_law_281 (lv_at hl 5 rfl) ?_
  refine lv_iconst (v := 3) hx hb d_l_law_283 (by decide) ?_
  refine lv_iadd hx hb d_l_law_284 ?_
  obtain ⟨g49, hF⟩ := f_gd_some hF
  refine va_sld hx hb hX hbl hbA hS (f_ib_in g49) d_l_law_285 ?_
  refine lv_aload_n hx hb d_l_law_286 rfl (lv_at hl 1 rfl) ?_
  refine lv_iload hx hb d_l_law_287 (lv_at hl 5 rfl) ?_
  refine lv_iconst (v := 4) hx hb d_l_law_289 (by decide) ?_
  refine lv_iadd hx hb d_l_law_290 ?_
  obtain ⟨g50, hF⟩ := f_gd_some hF
  refine va_sld hx hb hX hbl hbA hS (f_ib_in g50) d_l_law_291 ?_
  refine lv_aload_n hx hb d_l_law_292 rfl (lv_at hl 1 rfl) ?_
  refine lv_iload hx hb d_l_law_293 (lv_at hl 5 rfl) ?_
  refine lv_iconst (v := 5) hx hb d_l_law_295 (by decide) ?_
  refine lv_iadd hx hb d_l_law_296 ?_
  obtain ⟨g51, hF⟩ := f_gd_some hF
  refine va_sld hx hb hX hbl hbA hS (f_ib_in g51) d_l_law_297 ?_
  refine lv_aload_n hx hb d_l_law_298 rfl (lv_at hl 1 rfl) ?_
  refine lv_iload hx hb d_l_law_299 (lv_at hl 5 rfl) ?_
  refine lv_bipush (v := 6) hx hb d_l_law_301 (by decide) ?_
  refine lv_iadd hx hb d_l_law_303 ?_
  obtain ⟨g52, hF⟩ := f_gd_some hF
  refine va_sld hx hb hX hbl hbA hS (f_ib_in g52) d_l_law_304 ?_
  refine lv_aload_n hx hb d_l_law_305 rfl (lv_at hl 1 rfl) ?_
  refine lv_iload hx hb d_l_law_306 (lv_at hl 5 rfl) ?_
  refine lv_bipush (v := 7) hx hb d_l_law_308 (by decide) ?_
  refine lv_iadd hx hb d_l_law_310 ?_
  obtain ⟨g53, hF⟩ := f_gd_some hF
  refine va_sld hx hb hX hbl hbA hS (f_ib_in g53) d_l_law_311 ?_
  obtain ⟨v54, z54, hc54, hF⟩ := f_bd_some hF
  refine hw_VR (k := 30) (i := 0) (nk := 1) (As := [.int (xs (f_ix (x4 + 1))), .int (xs (f_ix (x4 + 2))), .int (xs (f_ix (x4 + 3))), .int (xs (f_ix (x4 + 4))), .int (xs (f_ix (x4 + 5))), .int (xs (f_ix (x4 + 6))), .int (xs (f_ix (x4 + 7)))]) (rest := []) hx hb hml hown hts (c_m_kind_ok l hl0 hLi (xs (f_ix (x4 + 1))) (xs (f_ix (x4 + 2))) (xs (f_ix (x4 + 3))) (xs (f_ix (x4 + 4))) (xs (f_ix (x4 + 5))) (xs (f_ix (x4 + 6))) (xs (f_ix (x4 + 7)))  _ _ _ hc54) st_l_98 (by decide) rfl (by omega) rfl rfl hK hZ hsz hS hW rfl hl.1 (Nat.le_of_ble_eq_true rfl) d_l_law_312 (by omega) (by omega) (by omega) (by omega) (fun H locs hW hS => ?_)
  refine lv_istore (lv' := [(6, .int v54), (5, .int v46), (0, .ref b), (1, .ref (L 0 0)), (2, .ref (L 30 0)), (3, .ref (L 50 0)), (4, .int x4)]) hx hb d_l_law_315 hl (by decide) rfl (fun ls hl => ?_)
  refine lv_aload_n hx hb d_l_law_317 rfl (lv_at hl 4 rfl) ?_
  obtain ⟨v55, z55, hc55, hF⟩ := f_bd_some hF
  refine hw_VR (k := 30) (i := 0) (nk := 1) (As := []) (rest := []) hx hb hml hown hts (c_m_thrown_ok l hl0 hLi   _ _ _ hc55) st_l_92 (by decide) rfl (by omega) rfl rfl hK hZ hsz hS hW rfl hl.1 (Nat.le_of_ble_eq_true rfl) d_l_law_318 (by omega) (by omega) (by omega) (by omega) (fun H locs hW hS => ?_)
  refine lv_iload hx hb d_l_law_321 (lv_at hl 1 rfl) ?_
  refine lv_icmp_eq (tgt := 328) hx hb d_l_law_323 (by decide) (fun h56 => ?_) (fun h56 => ?_)
  · replace hF := (if_pos h56).symm.trans hF
    refine lv_iload hx hb d_l_law_328 (lv_at hl 1 rfl) ?_
    refine lv_if_ne (tgt := 345) hx hb d_l_law_330 (by decide) (fun h57 => ?_) (fun h57 => ?_)
    · replace hF := (if_neg h57).symm.trans hF
      exact law_B345 l hl0 hLi hx hb hr hlk hml hts hown hK hZ hsz hb0 hX hbl hbA z' N k23 K23 x4 z55 hF _ _ _ _ _ hW hS (lv_sub hl [2, 3, 4, 5, 6] rfl) (by omega) (by omega)
    · replace hF := (if_pos h57).symm.trans hF
      refine lv_aload_n hx hb d_l_law_333 rfl (lv_at hl 5 rfl) ?_
      refine lv_iconst (v := 0) hx hb d_l_law_334 (by decide) ?_
      refine hw_lald hx hb hK hW d_l_law_335 ?_
      refine lv_iload hx hb d_l_law_336 (lv_at hl 0 rfl) ?_
      refine lv_i2l hx hb d_l_law_338 rfl ?_
      refine W.lcmp hx hb d_l_law_339 ?_
      refine lv_if_eq (tgt := 345) hx hb d_l_law_340 (by decide) (fun h58 => ?_) (fun h58 => ?_)
      · replace hF := (if_pos h58).symm.trans hF
        exact law_B345 l hl0 hLi hx hb hr hlk hml hts hown hK hZ hsz hb0 hX hbl hbA z' N k23 K23 x4 z55 hF _ _ _ _ _ hW hS (lv_sub hl [2, 3, 4, 5, 6] rfl) (by omega) (by omega)
      · replace hF := (if_neg h58).symm.trans hF
        refine lv_iconst (v := 0) hx hb d_l_law_343 (by decide) ?_
        exact hw_lawret hx hb hr hlk hS hb0 (by omega) (by omega) d_l_law_344 hF
  · replace hF := (if_neg h56).symm.trans hF
    refine lv_iconst (v := 0) hx hb d_l_law_326 (by decide) ?_
    exact hw_lawret hx hb hr hlk hS hb0 (by omega) (by omega) d_l_law_327 hF
set_option maxRecDepth 100000 in
set_option maxHeartbeats 4000000 in
theorem law_B144 (l : Launch) (hl0 : l.stackTraces = false) {L : Nat → Nat → Nat} {Ar : Nat → ClassId} {D : va_G} {b0 : Nat} (hLi : f_L L b0) {p : Program} {e : Env} {s : State} {m : MethodId} {below : List Frame} {meth : Method} {c : Code} {b xn : Nat} {xs : Nat → Int32} (hx : p.tables.exec = Jvm.exec) (hb : c.code = code) (hr : meth.sig.returnType = ret) (hlk : meth.locks = false) (hml : c.maxLocals = 7) (hts : ∀ w ∈ wt, w.before #[Value.ref b] s = true) (hown : s.vm.findClass "BottleReturnLaw" = some m.cls) (hK : f_K Ar D s) (hZ : f_Z b0 s s.heap) (hsz : b0 ≤ s.heap.size) (hb0 : s.heap.size ≤ b0) (hX : va_X b xn xs s s.heap) (hbl : b < s.heap.size) (hbA : ¬ f_A b0 b) (z' : fST) (N : Nat) (k23 : Int32 × fST → Option (Int32 × fST)) (K23 : ∀ (x4 : Int32) (z : fST), k23 (x4, z) = some (1, z') → f_B p l e room_1 s m #[Value.ref b] below meth c L Ar D b0 7 600000 (lw_Z below #[Value.ref b] s) N 23 [(0, .ref b), (1, .ref (L 0 0)), (2, .ref (L 30 0)), (3, .ref (L 50 0)), (4, .int x4)] [] z) (x4 : Int32) (z : fST) (hF : b_l_law_144 xn xs k23 x4 z = some (1, z')) : f_B p l e room_1 s m #[Value.ref b] below meth c L Ar D b0 7 600000 (lw_Z below #[Value.ref b] s) (N + 3) 144 [(0, .ref b), (1, .ref (L 0 0)), (2, .ref (L 30 0)), (3, .ref (L 50 0)), (4, .int x4)] [] z := by
  have hRf : room_1.frames = 11 := rfl
  have hRl : room_1.locals = 404 := rfl
  have hRc : room_1.cells = 601024 := rfl
  have hRs : room_1.slots = 7293034 := rfl
  intro H locs ls cells slots hW hS hl hc hs
  unfold b_l_law_144 at hF
  refine lv_aload_n hx hb d_l_law_144 rfl (lv_at hl 1 rfl) ?_
  refine lv_aload_n hx hb d_l_law_145 rfl (lv_at hl 0 rfl) ?_
  refine lv_iload hx hb d_l_law_146 (lv_at hl 4 rfl) ?_
  refine lv_iconst (v := 1) hx hb d_l_law_148 (by decide) ?_
  refine lv_iadd hx hb d_l_law_149 ?_
  obtain ⟨g27, hF⟩ := f_gd_some hF
  refine va_sld hx hb hX hbl hbA hS (f_ib_in g27) d_l_law_150 ?_
  refine lv_aload_n hx hb d_l_law_151 rfl (lv_at hl 0 rfl) ?_
  refine lv_iload hx hb d_l_law_152 (lv_at hl 4 rfl) ?_
  refine lv_iconst (v := 2) hx hb d_l_law_154 (by decide) ?_
  refine lv_iadd hx hb d_l_law_155 ?_
  obtain ⟨g28, hF⟩ := f_gd_some hF
  refine va_sld hx hb hX hbl hbA hS (f_ib_in g28) d_l_law_156 ?_
  refine lv_aload_n hx hb d_l_law_157 rfl (lv_at hl 0 rfl) ?_
  refine lv_iload hx hb d_l_law_158 (lv_at hl 4 rfl) ?_
  refine lv_iconst (v := 3) hx hb d_l_law_160 (by decide) ?_
  refine lv_iadd hx hb d_l_law_161 ?_
  obtain ⟨g29, hF⟩ := f_gd_some hF
  refine va_sld hx hb hX hbl hbA hS (f_ib_in g29) d_l_law_162 ?_
  refine lv_aload_n hx hb d_l_law_163 rfl (lv_at hl 0 rfl) ?_
  refine lv_iload hx hb d_l_law_164 (lv_at hl 4 rfl) ?_
  refine lv_iconst (v := 4) hx hb d_l_law_166 (by decide) ?_
  refine lv_iadd hx hb d_l_law_167 ?_
  obtain ⟨g30, hF⟩ := f_gd_some hF
  refine va_sld hx hb hX hbl hbA hS (f_ib_in g30) d_l_law_168 ?_
  obtain ⟨v31, z31, hc31, hF⟩ := f_bd_some hF
  refine hw_SW (As := [.ref (L 0 0), .int (xs (f_ix (x4 + 1))), .int (xs (f_ix (x4 + 2))), .int (xs (f_ix (x4 + 3))), .int (xs (f_ix (x4 + 4)))]) (rest := []) hx hb hml hown hts (c_l_contour_ok l hl0 hLi (xs (f_ix (x4 + 1))) (xs (f_ix (x4 + 2))) (xs (f_ix (x4 + 3))) (xs (f_ix (x4 + 4)))  _ _ _ hc31) st_l_86 hK hZ hsz hS hW rfl hl.1 (Nat.le_of_ble_eq_true rfl) d_l_law_169 (by omega) (by omega) (by omega) (by omega) (fun H locs hW hS => ?_)
  refine lv_istore (lv' := [(5, .int v31), (0, .ref b), (1, .ref (L 0 0)), (2, .ref (L 30 0)), (3, .ref (L 50 0)), (4, .int x4)]) hx hb d_l_law_172 hl (by decide) rfl (fun ls hl => ?_)
  refine lv_aload_n hx hb d_l_law_174 rfl (lv_at hl 3 rfl) ?_
  refine lv_aload_n hx hb d_l_law_175 rfl (lv_at hl 1 rfl) ?_
  refine lv_iload hx hb d_l_law_176 (lv_at hl 5 rfl) ?_
  refine lv_iconst (v := 1) hx hb d_l_law_178 (by decide) ?_
  refine lv_iadd hx hb d_l_law_179 ?_
  obtain ⟨g32, hF⟩ := f_gd_some hF
  refine va_sld hx hb hX hbl hbA hS (f_ib_in g32) d_l_law_180 ?_
  refine lv_aload_n hx hb d_l_law_181 rfl (lv_at hl 1 rfl) ?_
  refine lv_iload hx hb d_l_law_182 (lv_at hl 5 rfl) ?_
  refine lv_iconst (v := 2) hx hb d_l_law_184 (by decide) ?_
  refine lv_iadd hx hb d_l_law_185 ?_
  obtain ⟨g33, hF⟩ := f_gd_some hF
  refine va_sld hx hb hX hbl hbA hS (f_ib_in g33) d_l_law_186 ?_
  refine lv_aload_n hx hb d_l_law_187 rfl (lv_at hl 1 rfl) ?_
  refine lv_iload hx hb d_l_law_188 (lv_at hl 5 rfl) ?_
  refine lv_iconst (v := 3) hx hb d_l_law_190 (by decide) ?_
  refine lv_iadd hx hb d_l_law_191 ?_
  obtain ⟨g34, hF⟩ := f_gd_some hF
  refine va_sld hx hb hX hbl hbA hS (f_ib_in g34) d_l_law_192 ?_
  refine lv_aload_n hx hb d_l_law_193 rfl (lv_at hl 1 rfl) ?_
  refine lv_iload hx hb d_l_law_194 (lv_at hl 5 rfl) ?_
  refine lv_iconst (v := 4) hx hb d_l_law_196 (by decide) ?_
  refine lv_iadd hx hb d_l_law_197 ?_
  obtain ⟨g35, hF⟩ := f_gd_some hF
  refine va_sld hx hb hX hbl hbA hS (f_ib_in g35) d_l_law_198 ?_
  obtain ⟨v36, z36, hc36, hF⟩ := f_bd_some hF
  refine hw_VR (k := 30) (i := 0) (nk := 1) (As := [.int (xs (f_ix (x4 + 1))), .int (xs (f_ix (x4 + 2))), .int (xs (f_ix (x4 + 3))), .int (xs (f_ix (x4 + 4)))]) (rest := []) hx hb hml hown hts (c_m_contour_ok l hl0 hLi (xs (f_ix (x4 + 1))) (xs (f_ix (x4 + 2))) (xs (f_ix (x4 + 3))) (xs (f_ix (x4 + 4)))  _ _ _ hc36) st_l_91 (by decide) rfl (by omega) rfl rfl hK hZ hsz hS hW rfl hl.1 (Nat.le_of_ble_eq_true rfl) d_l_law_199 (by omega) (by omega) (by omega) (by omega) (fun H locs hW hS => ?_)
  refine lv_aload_n hx hb d_l_law_202 rfl (lv_at hl 3 rfl) ?_
  obtain ⟨v37, z37, hc37, hF⟩ := f_bd_some hF
  refine hw_VR (k := 30) (i := 0) (nk := 1) (As := []) (rest := []) hx hb hml hown hts (c_m_thrown_ok l hl0 hLi   _ _ _ hc37) st_l_92 (by decide) rfl (by omega) rfl rfl hK hZ hsz hS hW rfl hl.1 (Nat.le_of_ble_eq_true rfl) d_l_law_203 (by omega) (by omega) (by omega) (by omega) (fun H locs hW hS => ?_)
  refine lv_iload hx hb d_l_law_206 (lv_at hl 0 rfl) ?_
  refine lv_icmp_eq (tgt := 213) hx hb d_l_law_208 (by decide) (fun h38 => ?_) (fun h38 => ?_)
  · replace hF := (if_pos h38).symm.trans hF
    refine lv_goto (tgt := 1421) hx hb d_l_law_213 (by decide) ?_
    exact law_B1421 l hl0 hLi hx hb hr hlk hml hts hown hK hZ hsz hb0 hX hbl hbA z' N k23 K23 x4 z37 hF _ _ _ _ _ hW hS (lv_sub hl [1, 2, 3, 4, 5] rfl) (by omega) (by omega)
  · replace hF := (if_neg h38).symm.trans hF
    refine lv_iconst (v := 0) hx hb d_l_law_211 (by decide) ?_
    exact hw_lawret hx hb hr hlk hS hb0 (by omega) (by omega) d_l_law_212 hF
set_option maxRecDepth 100000 in
set_option maxHeartbeats 4000000 in
theorem law_loop (l : Launch) (hl0 : l.stackTraces = false) {L : Nat → Nat → Nat} {Ar : Nat → ClassId} {D : va_G} {b0 : Nat} (hLi : f_L L b0) {p : Program} {e : Env} {s : State} {m : MethodId} {below : List Frame} {meth : Method} {c : Code} {b xn : Nat} {xs : Nat → Int32} (hx : p.tables.exec = Jvm.exec) (hb : c.code = code) (hr : meth.sig.returnType = ret) (hlk : meth.locks = false) (hml : c.maxLocals = 7) (hts : ∀ w ∈ wt, w.before #[Value.ref b] s = true) (hown : s.vm.findClass "BottleReturnLaw" = some m.cls) (hK : f_K Ar D s) (hZ : f_Z b0 s s.heap) (hsz : b0 ≤ s.heap.size) (hb0 : s.heap.size ≤ b0) (hX : va_X b xn xs s s.heap) (hbl : b < s.heap.size) (hbA : ¬ f_A b0 b) (z' : fST) : ∀ (n : Nat) (x4 : Int32) (z : fST), f_it (b_l_law_23 xn xs) n (x4, z) = some (1, z') → f_B p l e room_1 s m #[Value.ref b] below meth c L Ar D b0 7 600000 (lw_Z below #[Value.ref b] s) (20 * n) 23 [(0, .ref b), (1, .ref (L 0 0)), (2, .ref (L 30 0)), (3, .ref (L 50 0)), (4, .int x4)] [] z := by
  have hRf : room_1.frames = 11 := rfl
  have hRl : room_1.locals = 404 := rfl
  have hRc : room_1.cells = 601024 := rfl
  have hRs : room_1.slots = 7293034 := rfl
  intro n
  induction n with
  | zero => intro x4 z hF; cases hF
  | succ n ih =>
    intro x4 z hF H locs ls cells slots hW hS hl hc hs
    replace hF := f_it_s hF
    obtain ⟨N, hN⟩ : ∃ N, N = 20 * n := ⟨_, rfl⟩
    rw [← hN] at ih
    have K23 : ∀ (x4 : Int32) (z : fST), f_it (b_l_law_23 xn xs) n (x4, z) = some (1, z') → f_B p l e room_1 s m #[Value.ref b] below meth c L Ar D b0 7 600000 (lw_Z below #[Value.ref b] s) N 23 [(0, .ref b), (1, .ref (L 0 0)), (2, .ref (L 30 0)), (3, .ref (L 50 0)), (4, .int x4)] [] z := fun x4 z hF => ih x4 z hF
    generalize f_it (b_l_law_23 xn xs) n = k23 at hF K23
    unfold b_l_law_23 at hF
    dsimp only at hF
    refine lv_iload hx hb d_l_law_23 (lv_at hl 4 rfl) ?_
    refine lv_aload_n hx hb d_l_law_25 rfl (lv_at hl 0 rfl) ?_
    refine va_slen hx hb hX hbl hbA hS d_l_law_26 ?_
    refine lv_bipush (v := 8) hx hb d_l_law_27 (by decide) ?_
    refine lv_isub hx hb d_l_law_29 ?_
    refine lv_icmp_gt (tgt := 1427) hx hb d_l_law_30 (by decide) (fun h1 => ?_) (fun h1 => ?_)
    · replace hF := (if_pos h1).symm.trans hF
      refine lv_iconst (v := 1) hx hb d_l_law_1427 (by decide) ?_
      exact hw_lawret hx hb hr hlk hS hb0 (by omega) (by omega) d_l_law_1428 hF
    · replace hF := (if_neg h1).symm.trans hF
      refine lv_aload_n hx hb d_l_law_33 rfl (lv_at hl 0 rfl) ?_
      refine lv_iload hx hb d_l_law_34 (lv_at hl 4 rfl) ?_
      obtain ⟨g2, hF⟩ := f_gd_some hF
      refine va_sld hx hb hX hbl hbA hS (f_ib_in g2) d_l_law_36 ?_
      refine lv_bipush (v := 31) hx hb d_l_law_37 (by decide) ?_
      refine lv_iand hx hb d_l_law_39 ?_
      refine lv_topi (x := (xs (f_ix x4)) &&& 31) (fun w3 e4 => ?_)
      rw [← e4] at hF
      by_cases h5 : w3 = 0
      · replace hF := (if_pos h5).symm.trans hF
        subst h5
        refine lv_tableIn (tgt := 144) hx hb d_l_law_40 (by decide) (by decide) rfl (by decide) ?_
        exact law_B144 l hl0 hLi hx hb hr hlk hml hts hown hK hZ hsz hb0 hX hbl hbA z' N k23 K23 x4 z hF _ _ _ _ _ hW hS (lv_sub hl [0, 1, 2, 3, 4] rfl) (by omega) (by omega)
      replace hF := (if_neg h5).symm.trans hF
      by_cases h6 : w3 = 1
      · replace hF := (if_pos h6).symm.trans hF
        subst h6
        refine lv_tableIn (tgt := 216) hx hb d_l_law_40 (by decide) (by decide) rfl (by decide) ?_
        exact law_B216 l hl0 hLi hx hb hr hlk hml hts hown hK hZ hsz hb0 hX hbl hbA z' N k23 K23 x4 z hF _ _ _ _ _ hW hS (lv_sub hl [0, 1, 2, 3, 4] rfl) (by omega) (by omega)
      replace hF := (if_neg h6).symm.trans hF
      by_cases h7 : w3 = 2
      · replace hF := (if_pos h7).symm.trans hF
        subst h7
        refine lv_tableIn (tgt := 348) hx hb d_l_law_40 (by decide) (by decide) rfl (by decide) ?_
        exact law_B348 l hl0 hLi hx hb hr hlk hml hts hown hK hZ hsz hb0 hX hbl hbA z' N k23 K23 x4 z hF _ _ _ _ _ hW hS (lv_sub hl [0, 1, 2, 3, 4] rfl) (by omega) (by omega)
      replace hF := (if_neg h7).symm.trans hF
      by_cases h8 : w3 = 3
      · replace hF := (if_pos h8).symm.trans hF
        subst h8
        refine lv_tableIn (tgt := 404) hx hb d_l_law_40 (by decide) (by decide) rfl (by decide) ?_
        exact law_B404 l hl0 hLi hx hb hr hlk hml hts hown hK hZ hsz hb0 hX hbl hbA z' N k23 K23 x4 z hF _ _ _ _ _ hW hS (lv_sub hl [0, 1, 2, 3, 4] rfl) (by omega) (by omega)
      replace hF := (if_neg h8).symm.trans hF
      by_cases h9 : w3 = 4
      · replace hF := (if_pos h9).symm.trans hF
        subst h9
        refine lv_tableIn (tgt := 467) hx hb d_l_law_40 (by decide) (by decide) rfl (by decide) ?_
        exact law_B467 l hl0 hLi hx hb hr hlk hml hts hown hK hZ hsz hb0 hX hbl hbA z' N k23 K23 x4 z hF _ _ _ _ _ hW hS (lv_sub hl [0, 1, 2, 3, 4] rfl) (by omega) (by omega)
      replace hF := (if_neg h9).symm.trans hF
      by_cases h10 : w3 = 5
      · replace hF := (if_pos h10).symm.trans hF
        subst h10
        refine lv_tableIn (tgt := 530) hx hb d_l_law_40 (by decide) (by decide) rfl (by decide) ?_
        exact law_B530 l hl0 hLi hx hb hr hlk hml hts hown hK hZ hsz hb0 hX hbl hbA z' N k23 K23 x4 z hF _ _ _ _ _ hW hS (lv_sub hl [0, 1, 2, 3, 4] rfl) (by omega) (by omega)
      replace hF := (if_neg h10).symm.trans hF
      by_cases h11 : w3 = 6
      · replace hF := (if_pos h11).symm.trans hF
        subst h11
        refine lv_tableIn (tgt := 593) hx hb d_l_law_40 (by decide) (by decide) rfl (by decide) ?_
        exact law_B593 l hl0 hLi hx hb hr hlk hml hts hown hK hZ hsz hb0 hX hbl hbA z' N k23 K23 x4 z hF _ _ _ _ _ hW hS (lv_sub hl [0, 1, 2, 3, 4] rfl) (by omega) (by omega)
      replace hF := (if_neg h11).symm.trans hF
      by_cases h12 : w3 = 7
      · replace hF := (if_pos h12).symm.trans hF
        subst h12
        refine lv_tableIn (tgt := 649) hx hb d_l_law_40 (by decide) (by decide) rfl (by decide) ?_
        exact law_B649 l hl0 hLi hx hb hr hlk hml hts hown hK hZ hsz hb0 hX hbl hbA z' N k23 K23 x4 z hF _ _ _ _ _ hW hS (lv_sub hl [0, 1, 2, 3, 4] rfl) (by omega) (by omega)
      replace hF := (if_neg h12).symm.trans hF
      by_cases h13 : w3 = 8
      · replace hF := (if_pos h13).symm.trans hF
        subst h13
        refine lv_tableIn (tgt := 705) hx hb d_l_law_40 (by decide) (by decide) rfl (by decide) ?_
        exact law_B705 l hl0 hLi hx hb hr hlk hml hts hown hK hZ hsz hb0 hX hbl hbA z' N k23 K23 x4 z hF _ _ _ _ _ hW hS (lv_sub hl [0, 1, 2, 3, 4] rfl) (by omega) (by omega)
      replace hF := (if_neg h13).symm.trans hF
      by_cases h14 : w3 = 9
      · replace hF := (if_pos h14).symm.trans hF
        subst h14
        refine lv_tableIn (tgt := 749) hx hb d_l_law_40 (by decide) (by decide) rfl (by decide) ?_
        exact law_B749 l hl0 hLi hx hb hr hlk hml hts hown hK hZ hsz hb0 hX hbl hbA z' N k23 K23 x4 z hF _ _ _ _ _ hW hS (lv_sub hl [0, 1, 2, 3, 4] rfl) (by omega) (by omega)
      replace hF := (if_neg h14).symm.trans hF
      by_cases h15 : w3 = 10
      · replace hF := (if_pos h15).symm.trans hF
        subst h15
        refine lv_tableIn (tgt := 793) hx hb d_l_law_40 (by decide) (by decide) rfl (by decide) ?_
        exact law_B793 l hl0 hLi hx hb hr hlk hml hts hown hK hZ hsz hb0 hX hbl hbA z' N k23 K23 x4 z hF _ _ _ _ _ hW hS (lv_sub hl [0, 1, 2, 3, 4] rfl) (by omega) (by omega)
      replace hF := (if_neg h15).symm.trans hF
      by_cases h16 : w3 = 11
      · replace hF := (if_pos h16).symm.trans hF
        subst h16
        refine lv_tableIn (tgt := 849) hx hb d_l_law_40 (by decide) (by decide) rfl (by decide) ?_
        exact law_B849 l hl0 hLi hx hb hr hlk hml hts hown hK hZ hsz hb0 hX hbl hbA z' N k23 K23 x4 z hF _ _ _ _ _ hW hS (lv_sub hl [0, 1, 2, 3, 4] rfl) (by omega) (by omega)
      replace hF := (if_neg h16).symm.trans hF
      by_cases h17 : w3 = 12
      · replace hF := (if_pos h17).symm.trans hF
        subst h17
        refine lv_tableIn (tgt := 893) hx hb d_l_law_40 (by decide) (by decide) rfl (by decide) ?_
        exact law_B893 l hl0 hLi hx hb hr hlk hml hts hown hK hZ hsz hb0 hX hbl hbA z' N k23 K23 x4 z hF _ _ _ _ _ hW hS (lv_sub hl [0, 1, 2, 3, 4] rfl) (by omega) (by omega)
      replace hF := (if_neg h17).symm.trans hF
      by_cases h18 : w3 = 13
      · replace hF := (if_pos h18).symm.trans hF
        subst h18
        refine lv_tableIn (tgt := 961) hx hb d_l_law_40 (by decide) (by decide) rfl (by decide) ?_
        exact law_B961 l hl0 hLi hx hb hr hlk hml hts hown hK hZ hsz hb0 hX hbl hbA z' N k23 K23 x4 z hF _ _ _ _ _ hW hS (lv_sub hl [0, 1, 2, 3, 4] rfl) (by omega) (by omega)
      replace hF := (if_neg h18).symm.trans hF
      by_cases h19 : w3 = 14
      · replace hF := (if_pos h19).symm.trans hF
        subst h19
        refine lv_tableIn (tgt := 1012) hx hb d_l_law_40 (by decide) (by decide) rfl (by decide) ?_
        exact law_B1012 l hl0 hLi hx hb hr hlk hml hts hown hK hZ hsz hb0 hX hbl hbA z' N k23 K23 x4 z hF _ _ _ _ _ hW hS (lv_sub hl [0, 1, 2, 3, 4] rfl) (by omega) (by omega)
      replace hF := (if_neg h19).symm.trans hF
      by_cases h20 : w3 = 15
      · replace hF := (if_pos h20).symm.trans hF
        subst h20
        refine lv_tableIn (tgt := 1048) hx hb d_l_law_40 (by decide) (by decide) rfl (by decide) ?_
        exact law_B1048 l hl0 hLi hx hb hr hlk hml hts hown hK hZ hsz hb0 hX hbl hbA z' N k23 K23 x4 z hF _ _ _ _ _ hW hS (lv_sub hl [0, 1, 2, 3, 4] rfl) (by omega) (by omega)
      replace hF := (if_neg h20).symm.trans hF
      by_cases h21 : w3 = 16
      · replace hF := (if_pos h21).symm.trans hF
        subst h21
        refine lv_tableIn (tgt := 1061) hx hb d_l_law_40 (by decide) (by decide) rfl (by decide) ?_
        exact law_B1061 l hl0 hLi hx hb hr hlk hml hts hown hK hZ hsz hb0 hX hbl hbA z' N k23 K23 x4 z hF _ _ _ _ _ hW hS (lv_sub hl [0, 1, 2, 3, 4] rfl) (by omega) (by omega)
      replace hF := (if_neg h21).symm.trans hF
      by_cases h22 : w3 = 17
      · replace hF := (if_pos h22).symm.trans hF
        subst h22
        refine lv_tableIn (tgt := 1136) hx hb d_l_law_40 (by decide) (by decide) rfl (by decide) ?_
        exact law_B1136 l hl0 hLi hx hb hr hlk hml hts hown hK hZ hsz hb0 hX hbl hbA z' N k23 K23 x4 z hF _ _ _ _ _ hW hS (lv_sub hl [0, 1, 2, 3, 4] rfl) (by omega) (by omega)
      replace hF := (if_neg h22).symm.trans hF
      by_cases h23 : w3 = 18
      · replace hF := (if_pos h23).symm.trans hF
        subst h23
        refine lv_tableIn (tgt := 1204) hx hb d_l_law_40 (by decide) (by decide) rfl (by decide) ?_
        exact law_B1204 l hl0 hLi hx hb hr hlk hml hts hown hK hZ hsz hb0 hX hbl hbA z' N k23 K23 x4 z hF _ _ _ _ _ hW hS (lv_sub hl [0, 1, 2, 3, 4] rfl) (by omega) (by omega)
      replace hF := (if_neg h23).symm.trans hF
      by_cases h24 : w3 = 19
      · replace hF := (if_pos h24).symm.trans hF
        subst h24
        refine lv_tableIn (tgt := 1272) hx hb d_l_law_40 (by decide) (by decide) rfl (by decide) ?_
        exact law_B1272 l hl0 hLi hx hb hr hlk hml hts hown hK hZ hsz hb0 hX hbl hbA z' N k23 K23 x4 z hF _ _ _ _ _ hW hS (lv_sub hl [0, 1, 2, 3, 4] rfl) (by omega) (by omega)
      replace hF := (if_neg h24).symm.trans hF
      by_cases h25 : w3 = 20
      · replace hF := (if_pos h25).symm.trans hF
        subst h25
        refine lv_tableIn (tgt := 1297) hx hb d_l_law_40 (by decide) (by decide) rfl (by decide) ?_
        exact law_B1297 l hl0 hLi hx hb hr hlk hml hts hown hK hZ hsz hb0 hX hbl hbA z' N k23 K23 x4 z hF _ _ _ _ _ hW hS (lv_sub hl [0, 1, 2, 3, 4] rfl) (by omega) (by omega)
      replace hF := (if_neg h25).symm.trans hF
      by_cases h26 : w3 = 21
      · replace hF := (if_pos h26).symm.trans hF
        subst h26
        refine lv_tableIn (tgt := 1365) hx hb d_l_law_40 (by decide) (by decide) rfl (by decide) ?_
        exact law_B1365 l hl0 hLi hx hb hr hlk hml hts hown hK hZ hsz hb0 hX hbl hbA z' N k23 K23 x4 z hF _ _ _ _ _ hW hS (lv_sub hl [0, 1, 2, 3, 4] rfl) (by omega) (by omega)
      replace hF := (if_neg h26).symm.trans hF
      refine f_swd (x := w3) (hi := 21) (tgt := 1421) hx hb d_l_law_40 (by decide) (fun k hk => by rcases (show k = 0 ∨ k = 1 ∨ k = 2 ∨ k = 3 ∨ k = 4 ∨ k = 5 ∨ k = 6 ∨ k = 7 ∨ k = 8 ∨ k = 9 ∨ k = 10 ∨ k = 11 ∨ k = 12 ∨ k = 13 ∨ k = 14 ∨ k = 15 ∨ k = 16 ∨ k = 17 ∨ k = 18 ∨ k = 19 ∨ k = 20 ∨ k = 21 by omega) with rfl | rfl | rfl | rfl | rfl | rfl | rfl | rfl | rfl | rfl | rfl | rfl | rfl | rfl | rfl | rfl | rfl | rfl | rfl | rfl | rfl | rfl <;> first | exact Or.inr rfl | exact Or.inl h5 | exact Or.inl h6 | exact Or.inl h7 | exact Or.inl h8 | exact Or.inl h9 | exact Or.inl h10 | exact Or.inl h11 | exact Or.inl h12 | exact Or.inl h13 | exact Or.inl h14 | exact Or.inl h15 | exact Or.inl h16 | exact Or.inl h17 | exact Or.inl h18 | exact Or.inl h19 | exact Or.inl h20 | exact Or.inl h21 | exact Or.inl h22 | exact Or.inl h23 | exact Or.inl h24 | exact Or.inl h25 | exact Or.inl h26) (by decide) ?_
      exact law_B1421 l hl0 hLi hx hb hr hlk hml hts hown hK hZ hsz hb0 hX hbl hbA z' N k23 K23 x4 z hF _ _ _ _ _ hW hS (lv_sub hl [0, 1, 2, 3, 4] rfl) (by omega) (by omega)
