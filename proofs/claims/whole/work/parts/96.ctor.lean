/-! the constructors but for Belt and BottleReturn: what each of them makes, and its contract -/
def w_ro (Ar : Nat → ClassId) (len : Nat) (h0 : Nat) (u : Nat) : va_W := [(h0, .inr (4, [.ref u, .int 0])), (u, .inl (Ar 0, len, .inl (fun _ => 0)))]
theorem xf_ro_7 : x_fp "BottleReturn$Row" 7 4 0 true (.array .int) := ⟨T_ro, 2, ty_ro, rfl, by decide, in_ro, rfl, (wt_in (List.mem_of_getElem? (i := 81) (by decide +kernel)) rfl), tk_ro, nm_ro, rfl, tk_ro 0 (by decide)⟩
set_option maxHeartbeats 4000000 in
set_option maxRecDepth 20000 in
theorem k_ro (l : Launch) (D : va_G) (Ar : Nat → ClassId) {n : Int32} {len : Nat} (hn : ¬ n < 0) (hN : n.toNatClampNeg = len) (h8 : len ≤ 8) : x_C l y_ro_init c_ro_init 2 1 1 len D Ar [.int n] (.inr (4, [.null, .int 0])) (w_ro Ar len) := by
  refine x_ofW (by decide) rfl (fun _ => Nat.le_of_ble_eq_true rfl) ?_
  intro p e s m args below meth c R h0 ls hRf hRl hRc hRs hx hb hr hlk hml hin hts hown hK hl hP hD
  have hA : ∀ q : Nat, s.heap.size ≤ q → x_A h0 s.heap.size q := fun q h => Or.inr h
  have hS : va_S (x_A h0 s.heap.size) s.heap s.heap [] := va_S.rf
  have hKK := hK.1
  have hl : lv_has ls 2 [(0, .ref h0), (1, .int n)] := hl
  have hown : s.vm.findClass "BottleReturn$Row" = some m.cls := hown
  refine x_obj hx hb hml hown hts (by omega) (by omega) (wt_in (List.mem_of_getElem? (i := 80) (by decide +kernel)) rfl) (wt_in (List.mem_of_getElem? (i := 24) (by decide +kernel)) rfl) (wt_in (List.mem_of_getElem? (i := 25) (by decide +kernel)) rfl) hl d_ro_init_0 d_ro_init_1 ?_
  refine lv_aload_n hx hb d_ro_init_4 rfl (lv_at hl 0 rfl) ?_
  refine lv_iload_n hx hb d_ro_init_5 rfl (lv_at hl 1 rfl) ?_
  refine x_newa (atype := .int) (ty := .int) (a0 := .inl (fun _ => 0)) (N := len) 0 hx hb hts (wt_in (List.mem_of_getElem? (i := 61) (by decide +kernel)) rfl) rfl rfl hKK hP hD hS hA (x_hai _) hn hN (by show len * 4 ≤ _; omega) (by omega) (by omega) d_ro_init_6 (fun q1 H hP hD hS => ?_)
  have hP : va_P D vwCl ((h0, .inr (4, [.null, .int 0])) :: [(q1, .inl (Ar 0, len, .inl (fun _ => 0)))]) H := hP
  have hD : va_D (x_A h0 s.heap.size) ((h0, .inr (4, [.null, .int 0])) :: [(q1, .inl (Ar 0, len, .inl (fun _ => 0)))]) := hD
  refine x_putF (v := .ref q1) hx hb hts hown hin hKK hP hD hS xf_ro_7 rfl rfl (Nat.le_of_ble_eq_true rfl) d_ro_init_8 (fun H locs hP hD hS => ?_)
  have hP : va_P D vwCl ((h0, .inr (4, [.ref q1, .int 0])) :: [(q1, .inl (Ar 0, len, .inl (fun _ => 0)))]) H := hP
  have hD : va_D (x_A h0 s.heap.size) ((h0, .inr (4, [.ref q1, .int 0])) :: [(q1, .inl (Ar 0, len, .inl (fun _ => 0)))]) := hD
  exact x_ret q1 hx hb hr hlk hP hD hS (by omega) (by omega) d_ro_init_11

def w_co (Ar : Nat → ClassId) (h0 : Nat) (u : Nat × Nat × Nat × Nat) : va_W := [(h0, .inr (3, [.ref u.1, .ref u.2.2.1, .int 0, .int 0, .int 0, .int 0, .int 0, .int 0, .int 0])), (u.1, .inr (4, [.ref u.2.1, .int 0])), (u.2.1, .inl (Ar 0, 3, .inl (fun _ => 0))), (u.2.2.1, .inr (4, [.ref u.2.2.2, .int 0])), (u.2.2.2, .inl (Ar 0, 8, .inl (fun _ => 0)))]
theorem xn_co_9 : x_nw "BottleReturn$Container" 9 4 2 [.null, .int 0] := ⟨"BottleReturn$Row", T_ro, ty_ro, rfl, in_ro, tk_ro, (wt_in (List.mem_of_getElem? (i := 75) (by decide +kernel)) rfl), (wt_in (List.mem_of_getElem? (i := 76) (by decide +kernel)) rfl), (wt_in (List.mem_of_getElem? (i := 5) (by decide +kernel)) rfl), by decide⟩
theorem xf_co_14 : x_fp "BottleReturn$Container" 14 3 0 true (.object "BottleReturn$Row") := ⟨T_co, 9, ty_co, rfl, by decide, in_co, rfl, (wt_in (List.mem_of_getElem? (i := 93) (by decide +kernel)) rfl), tk_co, nm_co, rfl, tk_co 0 (by decide)⟩
theorem xf_co_20 : x_fp "BottleReturn$Container" 20 3 1 true (.object "BottleReturn$Row") := ⟨T_co, 9, ty_co, rfl, by decide, in_co, rfl, (wt_in (List.mem_of_getElem? (i := 96) (by decide +kernel)) rfl), tk_co, nm_co, rfl, tk_co 1 (by decide)⟩
set_option maxHeartbeats 4000000 in
set_option maxRecDepth 20000 in
theorem k_co (l : Launch) (D : va_G) (Ar : Nat → ClassId) : x_C l y_co_init c_co_init 1 2 4 15 D Ar [] (.inr (3, [.null, .null, .int 0, .int 0, .int 0, .int 0, .int 0, .int 0, .int 0])) (w_co Ar) := by
  refine x_ofW (by decide) rfl (fun _ => Nat.le_of_ble_eq_true rfl) ?_
  intro p e s m args below meth c R h0 ls hRf hRl hRc hRs hx hb hr hlk hml hin hts hown hK hl hP hD
  have hA : ∀ q : Nat, s.heap.size ≤ q → x_A h0 s.heap.size q := fun q h => Or.inr h
  have hS : va_S (x_A h0 s.heap.size) s.heap s.heap [] := va_S.rf
  have hKK := hK.1
  have hl : lv_has ls 1 [(0, .ref h0)] := hl
  have hown : s.vm.findClass "BottleReturn$Container" = some m.cls := hown
  refine x_obj hx hb hml hown hts (by omega) (by omega) (wt_in (List.mem_of_getElem? (i := 74) (by decide +kernel)) rfl) (wt_in (List.mem_of_getElem? (i := 24) (by decide +kernel)) rfl) (wt_in (List.mem_of_getElem? (i := 25) (by decide +kernel)) rfl) hl d_co_init_0 d_co_init_1 ?_
  refine lv_aload_n hx hb d_co_init_4 rfl (lv_at hl 0 rfl) ?_
  refine x_new hx hb hts hown hKK hP hD hS hA xn_co_9 (by omega) (by omega) d_co_init_5 (fun q1 H hP hD hS => ?_)
  refine lv_dup hx hb d_co_init_8 rfl ?_
  refine lv_iconst (v := 3) hx hb d_co_init_9 (by decide) ?_
  refine x_go (ws := (h0, .inr (3, [.null, .null, .int 0, .int 0, .int 0, .int 0, .int 0, .int 0, .int 0])) :: []) (x_runI (ws := (h0, .inr (3, [.null, .null, .int 0, .int 0, .int 0, .int 0, .int 0, .int 0, .int 0])) :: []) (as := [.int 3]) (rest := [.ref q1, .ref h0]) hx hb hml hown hts hK (k_ro l D Ar (n := 3) (len := 3) (by decide) (by decide) (by omega)) w_ro_init (wt_in (List.mem_of_getElem? (i := 5) (by decide +kernel)) rfl) (wt_in (List.mem_of_getElem? (i := 77) (by decide +kernel)) rfl) (wt_in (List.mem_of_getElem? (i := 78) (by decide +kernel)) rfl) rfl ⟨by decide, by decide, by decide +kernel⟩ ⟨by omega, by omega⟩ hP hl.1 (Nat.le_of_ble_eq_true rfl) d_co_init_10 ⟨by omega, by omega⟩) hP hD hS hA (fun u1 H locs hP hD hS => ?_)
  have hP : va_P D vwCl ((h0, .inr (3, [.null, .null, .int 0, .int 0, .int 0, .int 0, .int 0, .int 0, .int 0])) :: [(q1, .inr (4, [.ref u1, .int 0])), (u1, .inl (Ar 0, 3, .inl (fun _ => 0)))]) H := hP
  have hD : va_D (x_A h0 s.heap.size) ((h0, .inr (3, [.null, .null, .int 0, .int 0, .int 0, .int 0, .int 0, .int 0, .int 0])) :: [(q1, .inr (4, [.ref u1, .int 0])), (u1, .inl (Ar 0, 3, .inl (fun _ => 0)))]) := hD
  refine x_putF (v := .ref q1) hx hb hts hown hin hKK hP hD hS xf_co_14 rfl rfl (Nat.le_of_ble_eq_true rfl) d_co_init_13 (fun H locs hP hD hS => ?_)
  have hP : va_P D vwCl ((h0, .inr (3, [.ref q1, .null, .int 0, .int 0, .int 0, .int 0, .int 0, .int 0, .int 0])) :: [(q1, .inr (4, [.ref u1, .int 0])), (u1, .inl (Ar 0, 3, .inl (fun _ => 0)))]) H := hP
  have hD : va_D (x_A h0 s.heap.size) ((h0, .inr (3, [.ref q1, .null, .int 0, .int 0, .int 0, .int 0, .int 0, .int 0, .int 0])) :: [(q1, .inr (4, [.ref u1, .int 0])), (u1, .inl (Ar 0, 3, .inl (fun _ => 0)))]) := hD
  refine lv_aload_n hx hb d_co_init_16 rfl (lv_at hl 0 rfl) ?_
  refine x_new hx hb hts hown hKK hP hD hS hA xn_co_9 (by omega) (by omega) d_co_init_17 (fun q2 H hP hD hS => ?_)
  refine lv_dup hx hb d_co_init_20 rfl ?_
  refine lv_bipush (v := 8) hx hb d_co_init_21 (by decide) ?_
  refine x_go (ws := (h0, .inr (3, [.ref q1, .null, .int 0, .int 0, .int 0, .int 0, .int 0, .int 0, .int 0])) :: [(q1, .inr (4, [.ref u1, .int 0])), (u1, .inl (Ar 0, 3, .inl (fun _ => 0)))]) (x_runI (ws := (h0, .inr (3, [.ref q1, .null, .int 0, .int 0, .int 0, .int 0, .int 0, .int 0, .int 0])) :: [(q1, .inr (4, [.ref u1, .int 0])), (u1, .inl (Ar 0, 3, .inl (fun _ => 0)))]) (as := [.int 8]) (rest := [.ref q2, .ref h0]) hx hb hml hown hts hK (k_ro l D Ar (n := 8) (len := 8) (by decide) (by decide) (by omega)) w_ro_init (wt_in (List.mem_of_getElem? (i := 5) (by decide +kernel)) rfl) (wt_in (List.mem_of_getElem? (i := 77) (by decide +kernel)) rfl) (wt_in (List.mem_of_getElem? (i := 78) (by decide +kernel)) rfl) rfl ⟨by decide, by decide, by decide +kernel⟩ ⟨by omega, by omega⟩ hP hl.1 (Nat.le_of_ble_eq_true rfl) d_co_init_23 ⟨by omega, by omega⟩) hP hD hS hA (fun u2 H locs hP hD hS => ?_)
  have hP : va_P D vwCl ((h0, .inr (3, [.ref q1, .null, .int 0, .int 0, .int 0, .int 0, .int 0, .int 0, .int 0])) :: [(q1, .inr (4, [.ref u1, .int 0])), (u1, .inl (Ar 0, 3, .inl (fun _ => 0))), (q2, .inr (4, [.ref u2, .int 0])), (u2, .inl (Ar 0, 8, .inl (fun _ => 0)))]) H := hP
  have hD : va_D (x_A h0 s.heap.size) ((h0, .inr (3, [.ref q1, .null, .int 0, .int 0, .int 0, .int 0, .int 0, .int 0, .int 0])) :: [(q1, .inr (4, [.ref u1, .int 0])), (u1, .inl (Ar 0, 3, .inl (fun _ => 0))), (q2, .inr (4, [.ref u2, .int 0])), (u2, .inl (Ar 0, 8, .inl (fun _ => 0)))]) := hD
  refine x_putF (v := .ref q2) hx hb hts hown hin hKK hP hD hS xf_co_20 rfl rfl (Nat.le_of_ble_eq_true rfl) d_co_init_26 (fun H locs hP hD hS => ?_)
  have hP : va_P D vwCl ((h0, .inr (3, [.ref q1, .ref q2, .int 0, .int 0, .int 0, .int 0, .int 0, .int 0, .int 0])) :: [(q1, .inr (4, [.ref u1, .int 0])), (u1, .inl (Ar 0, 3, .inl (fun _ => 0))), (q2, .inr (4, [.ref u2, .int 0])), (u2, .inl (Ar 0, 8, .inl (fun _ => 0)))]) H := hP
  have hD : va_D (x_A h0 s.heap.size) ((h0, .inr (3, [.ref q1, .ref q2, .int 0, .int 0, .int 0, .int 0, .int 0, .int 0, .int 0])) :: [(q1, .inr (4, [.ref u1, .int 0])), (u1, .inl (Ar 0, 3, .inl (fun _ => 0))), (q2, .inr (4, [.ref u2, .int 0])), (u2, .inl (Ar 0, 8, .inl (fun _ => 0)))]) := hD
  exact x_ret (q1, u1, q2, u2) hx hb hr hlk hP hD hS (by omega) (by omega) d_co_init_29

def w_bi (Ar : Nat → ClassId) (h0 : Nat) (u : Nat × Nat) : va_W := [(h0, .inr (5, [.ref u.1, .ref u.2])), (u.1, .inl (Ar 0, 3, .inl (fun _ => 0))), (u.2, .inl (Ar 0, 3, .inl (fun _ => 30)))]
theorem xf_bi_9 : x_fp "BottleReturn$Bins" 9 5 0 true (.array .int) := ⟨T_bi, 2, ty_bi, rfl, by decide, in_bi, rfl, (wt_in (List.mem_of_getElem? (i := 152) (by decide +kernel)) rfl), tk_bi, nm_bi, rfl, tk_bi 0 (by decide)⟩
theorem xf_bi_15 : x_fp "BottleReturn$Bins" 15 5 1 true (.array .int) := ⟨T_bi, 2, ty_bi, rfl, by decide, in_bi, rfl, (wt_in (List.mem_of_getElem? (i := 154) (by decide +kernel)) rfl), tk_bi, nm_bi, rfl, tk_bi 1 (by decide)⟩
set_option maxHeartbeats 4000000 in
set_option maxRecDepth 20000 in
theorem k_bi (l : Launch) (D : va_G) (Ar : Nat → ClassId) : x_C l y_bi_init c_bi_init 2 1 2 6 D Ar [] (.inr (5, [.null, .null])) (w_bi Ar) := by
  refine x_ofW (by decide) rfl (fun _ => Nat.le_of_ble_eq_true rfl) ?_
  intro p e s m args below meth c R h0 ls hRf hRl hRc hRs hx hb hr hlk hml hin hts hown hK hl hP hD
  have hA : ∀ q : Nat, s.heap.size ≤ q → x_A h0 s.heap.size q := fun q h => Or.inr h
  have hS : va_S (x_A h0 s.heap.size) s.heap s.heap [] := va_S.rf
  have hKK := hK.1
  have hl : lv_has ls 2 [(0, .ref h0)] := hl
  have hown : s.vm.findClass "BottleReturn$Bins" = some m.cls := hown
  refine x_obj hx hb hml hown hts (by omega) (by omega) (wt_in (List.mem_of_getElem? (i := 151) (by decide +kernel)) rfl) (wt_in (List.mem_of_getElem? (i := 24) (by decide +kernel)) rfl) (wt_in (List.mem_of_getElem? (i := 25) (by decide +kernel)) rfl) hl d_bi_init_0 d_bi_init_1 ?_
  refine lv_aload_n hx hb d_bi_init_4 rfl (lv_at hl 0 rfl) ?_
  refine lv_iconst (v := 3) hx hb d_bi_init_5 (by decide) ?_
  refine x_newa (atype := .int) (ty := .int) (a0 := .inl (fun _ => 0)) (N := 3) 0 hx hb hts (wt_in (List.mem_of_getElem? (i := 61) (by decide +kernel)) rfl) rfl rfl hKK hP hD hS hA (x_hai _) (by decide) (by decide) (Nat.le_of_ble_eq_true rfl) (by omega) (by omega) d_bi_init_6 (fun q1 H hP hD hS => ?_)
  have hP : va_P D vwCl ((h0, .inr (5, [.null, .null])) :: [(q1, .inl (Ar 0, 3, .inl (fun _ => 0)))]) H := hP
  have hD : va_D (x_A h0 s.heap.size) ((h0, .inr (5, [.null, .null])) :: [(q1, .inl (Ar 0, 3, .inl (fun _ => 0)))]) := hD
  refine x_putF (v := .ref q1) hx hb hts hown hin hKK hP hD hS xf_bi_9 rfl rfl (Nat.le_of_ble_eq_true rfl) d_bi_init_8 (fun H locs hP hD hS => ?_)
  have hP : va_P D vwCl ((h0, .inr (5, [.ref q1, .null])) :: [(q1, .inl (Ar 0, 3, .inl (fun _ => 0)))]) H := hP
  have hD : va_D (x_A h0 s.heap.size) ((h0, .inr (5, [.ref q1, .null])) :: [(q1, .inl (Ar 0, 3, .inl (fun _ => 0)))]) := hD
  refine lv_aload_n hx hb d_bi_init_11 rfl (lv_at hl 0 rfl) ?_
  refine lv_iconst (v := 3) hx hb d_bi_init_12 (by decide) ?_
  refine x_newa (atype := .int) (ty := .int) (a0 := .inl (fun _ => 0)) (N := 3) 0 hx hb hts (wt_in (List.mem_of_getElem? (i := 61) (by decide +kernel)) rfl) rfl rfl hKK hP hD hS hA (x_hai _) (by decide) (by decide) (Nat.le_of_ble_eq_true rfl) (by omega) (by omega) d_bi_init_13 (fun q2 H hP hD hS => ?_)
  have hP : va_P D vwCl ((h0, .inr (5, [.ref q1, .null])) :: [(q1, .inl (Ar 0, 3, .inl (fun _ => 0))), (q2, .inl (Ar 0, 3, .inl (fun _ => 0)))]) H := hP
  have hD : va_D (x_A h0 s.heap.size) ((h0, .inr (5, [.ref q1, .null])) :: [(q1, .inl (Ar 0, 3, .inl (fun _ => 0))), (q2, .inl (Ar 0, 3, .inl (fun _ => 0)))]) := hD
  refine x_putF (v := .ref q2) hx hb hts hown hin hKK hP hD hS xf_bi_15 rfl rfl (Nat.le_of_ble_eq_true rfl) d_bi_init_15 (fun H locs hP hD hS => ?_)
  have hP : va_P D vwCl ((h0, .inr (5, [.ref q1, .ref q2])) :: [(q1, .inl (Ar 0, 3, .inl (fun _ => 0))), (q2, .inl (Ar 0, 3, .inl (fun _ => 0)))]) H := hP
  have hD : va_D (x_A h0 s.heap.size) ((h0, .inr (5, [.ref q1, .ref q2])) :: [(q1, .inl (Ar 0, 3, .inl (fun _ => 0))), (q2, .inl (Ar 0, 3, .inl (fun _ => 0)))]) := hD
  refine lv_iconst (v := 0) hx hb d_bi_init_18 (by decide) ?_
  refine lv_istore_n (lv' := [(1, .int 0), (0, .ref h0)]) hx hb d_bi_init_19 rfl hl (by decide) rfl (fun ls hl => ?_)
  refine lv_iload_n hx hb d_bi_init_20 rfl (lv_at hl 0 rfl) ?_
  refine lv_iconst (v := 3) hx hb d_bi_init_21 (by decide) ?_
  refine lv_icmp_ge (tgt := 39) hx hb d_bi_init_22 (by decide) (fun h => absurd h (by decide)) (fun _ => ?_)
  refine lv_aload_n hx hb d_bi_init_25 rfl (lv_at hl 1 rfl) ?_
  refine x_get hx hb hts hown hKK hP xf_bi_15 rfl d_bi_init_26 ?_
  refine lv_iload_n hx hb d_bi_init_29 rfl (lv_at hl 0 rfl) ?_
  refine lv_bipush (v := 30) hx hb d_bi_init_30 (by decide) ?_
  refine va_iast hx hb hKK hP hD hS 2 0 rfl rfl (f_ib_in (show f_ib 0 3 = true by decide)) d_bi_init_32 (fun H locs hP hD hS => ?_)
  have hP : va_P D vwCl ((h0, .inr (5, [.ref q1, .ref q2])) :: [(q1, .inl (Ar 0, 3, .inl (fun _ => 0))), (q2, .inl (Ar 0, 3, .inl (upd (fun _ => 0) (0 : Int32).toNatClampNeg 30)))]) H := hP
  have hD : va_D (x_A h0 s.heap.size) ((h0, .inr (5, [.ref q1, .ref q2])) :: [(q1, .inl (Ar 0, 3, .inl (fun _ => 0))), (q2, .inl (Ar 0, 3, .inl (upd (fun _ => 0) (0 : Int32).toNatClampNeg 30)))]) := hD
  refine lv_iinc (k := 0) (x := 0) (v := 1) (lv' := [(1, .int 1), (0, .ref h0)]) hx hb d_bi_init_33 hl rfl (by decide) (by decide) rfl (fun ls hl => ?_)
  refine lv_goto (tgt := 20) hx hb d_bi_init_36 (by decide) ?_
  refine lv_iload_n hx hb d_bi_init_20 rfl (lv_at hl 0 rfl) ?_
  refine lv_iconst (v := 3) hx hb d_bi_init_21 (by decide) ?_
  refine lv_icmp_ge (tgt := 39) hx hb d_bi_init_22 (by decide) (fun h => absurd h (by decide)) (fun _ => ?_)
  refine lv_aload_n hx hb d_bi_init_25 rfl (lv_at hl 1 rfl) ?_
  refine x_get hx hb hts hown hKK hP xf_bi_15 rfl d_bi_init_26 ?_
  refine lv_iload_n hx hb d_bi_init_29 rfl (lv_at hl 0 rfl) ?_
  refine lv_bipush (v := 30) hx hb d_bi_init_30 (by decide) ?_
  refine va_iast hx hb hKK hP hD hS 2 0 rfl rfl (f_ib_in (show f_ib 1 3 = true by decide)) d_bi_init_32 (fun H locs hP hD hS => ?_)
  have hP : va_P D vwCl ((h0, .inr (5, [.ref q1, .ref q2])) :: [(q1, .inl (Ar 0, 3, .inl (fun _ => 0))), (q2, .inl (Ar 0, 3, .inl (upd (upd (fun _ => 0) (0 : Int32).toNatClampNeg 30) (1 : Int32).toNatClampNeg 30)))]) H := hP
  have hD : va_D (x_A h0 s.heap.size) ((h0, .inr (5, [.ref q1, .ref q2])) :: [(q1, .inl (Ar 0, 3, .inl (fun _ => 0))), (q2, .inl (Ar 0, 3, .inl (upd (upd (fun _ => 0) (0 : Int32).toNatClampNeg 30) (1 : Int32).toNatClampNeg 30)))]) := hD
  refine lv_iinc (k := 0) (x := 1) (v := 2) (lv' := [(1, .int 2), (0, .ref h0)]) hx hb d_bi_init_33 hl rfl (by decide) (by decide) rfl (fun ls hl => ?_)
  refine lv_goto (tgt := 20) hx hb d_bi_init_36 (by decide) ?_
  refine lv_iload_n hx hb d_bi_init_20 rfl (lv_at hl 0 rfl) ?_
  refine lv_iconst (v := 3) hx hb d_bi_init_21 (by decide) ?_
  refine lv_icmp_ge (tgt := 39) hx hb d_bi_init_22 (by decide) (fun h => absurd h (by decide)) (fun _ => ?_)
  refine lv_aload_n hx hb d_bi_init_25 rfl (lv_at hl 1 rfl) ?_
  refine x_get hx hb hts hown hKK hP xf_bi_15 rfl d_bi_init_26 ?_
  refine lv_iload_n hx hb d_bi_init_29 rfl (lv_at hl 0 rfl) ?_
  refine lv_bipush (v := 30) hx hb d_bi_init_30 (by decide) ?_
  refine va_iast hx hb hKK hP hD hS 2 0 rfl rfl (f_ib_in (show f_ib 2 3 = true by decide)) d_bi_init_32 (fun H locs hP hD hS => ?_)
  have hP : va_P D vwCl ((h0, .inr (5, [.ref q1, .ref q2])) :: [(q1, .inl (Ar 0, 3, .inl (fun _ => 0))), (q2, .inl (Ar 0, 3, .inl (upd (upd (upd (fun _ => 0) (0 : Int32).toNatClampNeg 30) (1 : Int32).toNatClampNeg 30) (2 : Int32).toNatClampNeg 30)))]) H := hP
  have hD : va_D (x_A h0 s.heap.size) ((h0, .inr (5, [.ref q1, .ref q2])) :: [(q1, .inl (Ar 0, 3, .inl (fun _ => 0))), (q2, .inl (Ar 0, 3, .inl (upd (upd (upd (fun _ => 0) (0 : Int32).toNatClampNeg 30) (1 : Int32).toNatClampNeg 30) (2 : Int32).toNatClampNeg 30)))]) := hD
  refine lv_iinc (k := 0) (x := 2) (v := 3) (lv' := [(1, .int 3), (0, .ref h0)]) hx hb d_bi_init_33 hl rfl (by decide) (by decide) rfl (fun ls hl => ?_)
  refine lv_goto (tgt := 20) hx hb d_bi_init_36 (by decide) ?_
  refine lv_iload_n hx hb d_bi_init_20 rfl (lv_at hl 0 rfl) ?_
  refine lv_iconst (v := 3) hx hb d_bi_init_21 (by decide) ?_
  refine lv_icmp_ge (tgt := 39) hx hb d_bi_init_22 (by decide) (fun _ => ?_) (fun h => absurd (by decide) h)
  obtain ⟨hP, hD⟩ := x_chg (k := 2) (y := (3, .inl (fun _ => 30))) hP hD rfl (x_celli (by decide))
  have hP : va_P D vwCl ((h0, .inr (5, [.ref q1, .ref q2])) :: [(q1, .inl (Ar 0, 3, .inl (fun _ => 0))), (q2, .inl (Ar 0, 3, .inl (fun _ => 30)))]) H := hP
  have hD : va_D (x_A h0 s.heap.size) ((h0, .inr (5, [.ref q1, .ref q2])) :: [(q1, .inl (Ar 0, 3, .inl (fun _ => 0))), (q2, .inl (Ar 0, 3, .inl (fun _ => 30)))]) := hD
  exact x_ret (q1, q2) hx hb hr hlk hP hD hS (by omega) (by omega) d_bi_init_39

def w_vo (Ar : Nat → ClassId) (h0 : Nat) (u : Nat × Nat × Nat) : va_W := [(h0, .inr (6, [.ref u.1, .ref u.2.1, .ref u.2.2, .int 0, .int 0, .int 0])), (u.1, .inl (Ar 0, 60, .inl (fun _ => 0))), (u.2.1, .inl (Ar 0, 60, .inl (fun _ => 0))), (u.2.2, .inl (Ar 1, 60, .inl (fun _ => 0)))]
theorem xf_vo_9 : x_fp "BottleReturn$Vouchers" 9 6 0 true (.array .int) := ⟨T_vo, 6, ty_vo, rfl, by decide, in_vo, rfl, (wt_in (List.mem_of_getElem? (i := 167) (by decide +kernel)) rfl), tk_vo, nm_vo, rfl, tk_vo 0 (by decide)⟩
theorem xf_vo_15 : x_fp "BottleReturn$Vouchers" 15 6 1 true (.array .int) := ⟨T_vo, 6, ty_vo, rfl, by decide, in_vo, rfl, (wt_in (List.mem_of_getElem? (i := 168) (by decide +kernel)) rfl), tk_vo, nm_vo, rfl, tk_vo 1 (by decide)⟩
theorem xf_vo_18 : x_fp "BottleReturn$Vouchers" 18 6 2 true (.array .boolean) := ⟨T_vo, 6, ty_vo, rfl, by decide, in_vo, rfl, (wt_in (List.mem_of_getElem? (i := 170) (by decide +kernel)) rfl), tk_vo, nm_vo, rfl, tk_vo 2 (by decide)⟩
set_option maxHeartbeats 4000000 in
set_option maxRecDepth 20000 in
theorem k_vo (l : Launch) (D : va_G) (Ar : Nat → ClassId) : x_C l y_vo_init c_vo_init 1 1 3 180 D Ar [] (.inr (6, [.null, .null, .null, .int 0, .int 0, .int 0])) (w_vo Ar) := by
  refine x_ofW (by decide) rfl (fun _ => Nat.le_of_ble_eq_true rfl) ?_
  intro p e s m args below meth c R h0 ls hRf hRl hRc hRs hx hb hr hlk hml hin hts hown hK hl hP hD
  have hA : ∀ q : Nat, s.heap.size ≤ q → x_A h0 s.heap.size q := fun q h => Or.inr h
  have hS : va_S (x_A h0 s.heap.size) s.heap s.heap [] := va_S.rf
  have hKK := hK.1
  have hl : lv_has ls 1 [(0, .ref h0)] := hl
  have hown : s.vm.findClass "BottleReturn$Vouchers" = some m.cls := hown
  refine x_obj hx hb hml hown hts (by omega) (by omega) (wt_in (List.mem_of_getElem? (i := 166) (by decide +kernel)) rfl) (wt_in (List.mem_of_getElem? (i := 24) (by decide +kernel)) rfl) (wt_in (List.mem_of_getElem? (i := 25) (by decide +kernel)) rfl) hl d_vo_init_0 d_vo_init_1 ?_
  refine lv_aload_n hx hb d_vo_init_4 rfl (lv_at hl 0 rfl) ?_
  refine lv_bipush (v := 60) hx hb d_vo_init_5 (by decide) ?_
  refine x_newa (atype := .int) (ty := .int) (a0 := .inl (fun _ => 0)) (N := 60) 0 hx hb hts (wt_in (List.mem_of_getElem? (i := 61) (by decide +kernel)) rfl) rfl rfl hKK hP hD hS hA (x_hai _) (by decide) (by decide) (Nat.le_of_ble_eq_true rfl) (by omega) (by omega) d_vo_init_7 (fun q1 H hP hD hS => ?_)
  have hP : va_P D vwCl ((h0, .inr (6, [.null, .null, .null, .int 0, .int 0, .int 0])) :: [(q1, .inl (Ar 0, 60, .inl (fun _ => 0)))]) H := hP
  have hD : va_D (x_A h0 s.heap.size) ((h0, .inr (6, [.null, .null, .null, .int 0, .int 0, .int 0])) :: [(q1, .inl (Ar 0, 60, .inl (fun _ => 0)))]) := hD
  refine x_putF (v := .ref q1) hx hb hts hown hin hKK hP hD hS xf_vo_9 rfl rfl (Nat.le_of_ble_eq_true rfl) d_vo_init_9 (fun H locs hP hD hS => ?_)
  have hP : va_P D vwCl ((h0, .inr (6, [.ref q1, .null, .null, .int 0, .int 0, .int 0])) :: [(q1, .inl (Ar 0, 60, .inl (fun _ => 0)))]) H := hP
  have hD : va_D (x_A h0 s.heap.size) ((h0, .inr (6, [.ref q1, .null, .null, .int 0, .int 0, .int 0])) :: [(q1, .inl (Ar 0, 60, .inl (fun _ => 0)))]) := hD
  refine lv_aload_n hx hb d_vo_init_12 rfl (lv_at hl 0 rfl) ?_
  refine lv_bipush (v := 60) hx hb d_vo_init_13 (by decide) ?_
  refine x_newa (atype := .int) (ty := .int) (a0 := .inl (fun _ => 0)) (N := 60) 0 hx hb hts (wt_in (List.mem_of_getElem? (i := 61) (by decide +kernel)) rfl) rfl rfl hKK hP hD hS hA (x_hai _) (by decide) (by decide) (Nat.le_of_ble_eq_true rfl) (by omega) (by omega) d_vo_init_15 (fun q2 H hP hD hS => ?_)
  have hP : va_P D vwCl ((h0, .inr (6, [.ref q1, .null, .null, .int 0, .int 0, .int 0])) :: [(q1, .inl (Ar 0, 60, .inl (fun _ => 0))), (q2, .inl (Ar 0, 60, .inl (fun _ => 0)))]) H := hP
  have hD : va_D (x_A h0 s.heap.size) ((h0, .inr (6, [.ref q1, .null, .null, .int 0, .int 0, .int 0])) :: [(q1, .inl (Ar 0, 60, .inl (fun _ => 0))), (q2, .inl (Ar 0, 60, .inl (fun _ => 0)))]) := hD
  refine x_putF (v := .ref q2) hx hb hts hown hin hKK hP hD hS xf_vo_15 rfl rfl (Nat.le_of_ble_eq_true rfl) d_vo_init_17 (fun H locs hP hD hS => ?_)
  have hP : va_P D vwCl ((h0, .inr (6, [.ref q1, .ref q2, .null, .int 0, .int 0, .int 0])) :: [(q1, .inl (Ar 0, 60, .inl (fun _ => 0))), (q2, .inl (Ar 0, 60, .inl (fun _ => 0)))]) H := hP
  have hD : va_D (x_A h0 s.heap.size) ((h0, .inr (6, [.ref q1, .ref q2, .null, .int 0, .int 0, .int 0])) :: [(q1, .inl (Ar 0, 60, .inl (fun _ => 0))), (q2, .inl (Ar 0, 60, .inl (fun _ => 0)))]) := hD
  refine lv_aload_n hx hb d_vo_init_20 rfl (lv_at hl 0 rfl) ?_
  refine lv_bipush (v := 60) hx hb d_vo_init_21 (by decide) ?_
  refine x_newa (atype := .boolean) (ty := .boolean) (a0 := .inl (fun _ => 0)) (N := 60) 1 hx hb hts (wt_in (List.mem_of_getElem? (i := 190) (by decide +kernel)) rfl) rfl rfl hKK hP hD hS hA (x_haz _) (by decide) (by decide) (Nat.le_of_ble_eq_true rfl) (by omega) (by omega) d_vo_init_23 (fun q3 H hP hD hS => ?_)
  have hP : va_P D vwCl ((h0, .inr (6, [.ref q1, .ref q2, .null, .int 0, .int 0, .int 0])) :: [(q1, .inl (Ar 0, 60, .inl (fun _ => 0))), (q2, .inl (Ar 0, 60, .inl (fun _ => 0))), (q3, .inl (Ar 1, 60, .inl (fun _ => 0)))]) H := hP
  have hD : va_D (x_A h0 s.heap.size) ((h0, .inr (6, [.ref q1, .ref q2, .null, .int 0, .int 0, .int 0])) :: [(q1, .inl (Ar 0, 60, .inl (fun _ => 0))), (q2, .inl (Ar 0, 60, .inl (fun _ => 0))), (q3, .inl (Ar 1, 60, .inl (fun _ => 0)))]) := hD
  refine x_putF (v := .ref q3) hx hb hts hown hin hKK hP hD hS xf_vo_18 rfl rfl (Nat.le_of_ble_eq_true rfl) d_vo_init_25 (fun H locs hP hD hS => ?_)
  have hP : va_P D vwCl ((h0, .inr (6, [.ref q1, .ref q2, .ref q3, .int 0, .int 0, .int 0])) :: [(q1, .inl (Ar 0, 60, .inl (fun _ => 0))), (q2, .inl (Ar 0, 60, .inl (fun _ => 0))), (q3, .inl (Ar 1, 60, .inl (fun _ => 0)))]) H := hP
  have hD : va_D (x_A h0 s.heap.size) ((h0, .inr (6, [.ref q1, .ref q2, .ref q3, .int 0, .int 0, .int 0])) :: [(q1, .inl (Ar 0, 60, .inl (fun _ => 0))), (q2, .inl (Ar 0, 60, .inl (fun _ => 0))), (q3, .inl (Ar 1, 60, .inl (fun _ => 0)))]) := hD
  exact x_ret (q1, q2, q3) hx hb hr hlk hP hD hS (by omega) (by omega) d_vo_init_28

def w_jo (h0 : Nat) (_ : Unit) : va_W := [(h0, .inr (7, [.int 0, .int 0, .int 1]))]
theorem xf_jo_7 : x_fp "BottleReturn$Journal" 7 7 2 false .boolean := ⟨T_jo, 3, ty_jo, rfl, by decide, in_jo, rfl, (wt_in (List.mem_of_getElem? (i := 201) (by decide +kernel)) rfl), tk_jo, nm_jo, rfl, tk_jo 2 (by decide)⟩
set_option maxHeartbeats 4000000 in
set_option maxRecDepth 20000 in
theorem k_jo (l : Launch) (D : va_G) (Ar : Nat → ClassId) : x_C l y_jo_init c_jo_init 1 1 0 0 D Ar [] (.inr (7, [.int 0, .int 0, .int 0])) (w_jo) := by
  refine x_ofW (by decide) rfl (fun _ => Nat.le_of_ble_eq_true rfl) ?_
  intro p e s m args below meth c R h0 ls hRf hRl hRc hRs hx hb hr hlk hml hin hts hown hK hl hP hD
  have hA : ∀ q : Nat, s.heap.size ≤ q → x_A h0 s.heap.size q := fun q h => Or.inr h
  have hS : va_S (x_A h0 s.heap.size) s.heap s.heap [] := va_S.rf
  have hKK := hK.1
  have hl : lv_has ls 1 [(0, .ref h0)] := hl
  have hown : s.vm.findClass "BottleReturn$Journal" = some m.cls := hown
  refine x_obj hx hb hml hown hts (by omega) (by omega) (wt_in (List.mem_of_getElem? (i := 196) (by decide +kernel)) rfl) (wt_in (List.mem_of_getElem? (i := 24) (by decide +kernel)) rfl) (wt_in (List.mem_of_getElem? (i := 25) (by decide +kernel)) rfl) hl d_jo_init_0 d_jo_init_1 ?_
  refine lv_aload_n hx hb d_jo_init_4 rfl (lv_at hl 0 rfl) ?_
  refine lv_iconst (v := 1) hx hb d_jo_init_5 (by decide) ?_
  refine x_put (v := .int 1) hx hb hts hown hKK hP hD hS xf_jo_7 rfl rfl (Nat.le_of_ble_eq_true rfl) d_jo_init_6 (fun H locs hP hD hS => ?_)
  have hP : va_P D vwCl ((h0, .inr (7, [.int 0, .int 0, .int 1])) :: []) H := hP
  have hD : va_D (x_A h0 s.heap.size) ((h0, .inr (7, [.int 0, .int 0, .int 1])) :: []) := hD
  exact x_ret () hx hb hr hlk hP hD hS (by omega) (by omega) d_jo_init_9

def w_la (Ar : Nat → ClassId) (h0 : Nat) (u : Nat) : va_W := [(h0, .inr (8, [.ref u, .int 0])), (u, .inl (Ar 0, 8, .inl (fun _ => 0)))]
theorem xf_la_9 : x_fp "BottleReturn$Latest" 9 8 0 true (.array .int) := ⟨T_la, 2, ty_la, rfl, by decide, in_la, rfl, (wt_in (List.mem_of_getElem? (i := 216) (by decide +kernel)) rfl), tk_la, nm_la, rfl, tk_la 0 (by decide)⟩
set_option maxHeartbeats 4000000 in
set_option maxRecDepth 20000 in
theorem k_la (l : Launch) (D : va_G) (Ar : Nat → ClassId) : x_C l y_la_init c_la_init 1 1 1 8 D Ar [] (.inr (8, [.null, .int 0])) (w_la Ar) := by
  refine x_ofW (by decide) rfl (fun _ => Nat.le_of_ble_eq_true rfl) ?_
  intro p e s m args below meth c R h0 ls hRf hRl hRc hRs hx hb hr hlk hml hin hts hown hK hl hP hD
  have hA : ∀ q : Nat, s.heap.size ≤ q → x_A h0 s.heap.size q := fun q h => Or.inr h
  have hS : va_S (x_A h0 s.heap.size) s.heap s.heap [] := va_S.rf
  have hKK := hK.1
  have hl : lv_has ls 1 [(0, .ref h0)] := hl
  have hown : s.vm.findClass "BottleReturn$Latest" = some m.cls := hown
  refine x_obj hx hb hml hown hts (by omega) (by omega) (wt_in (List.mem_of_getElem? (i := 215) (by decide +kernel)) rfl) (wt_in (List.mem_of_getElem? (i := 24) (by decide +kernel)) rfl) (wt_in (List.mem_of_getElem? (i := 25) (by decide +kernel)) rfl) hl d_la_init_0 d_la_init_1 ?_
  refine lv_aload_n hx hb d_la_init_4 rfl (lv_at hl 0 rfl) ?_
  refine lv_bipush (v := 8) hx hb d_la_init_5 (by decide) ?_
  refine x_newa (atype := .int) (ty := .int) (a0 := .inl (fun _ => 0)) (N := 8) 0 hx hb hts (wt_in (List.mem_of_getElem? (i := 61) (by decide +kernel)) rfl) rfl rfl hKK hP hD hS hA (x_hai _) (by decide) (by decide) (Nat.le_of_ble_eq_true rfl) (by omega) (by omega) d_la_init_7 (fun q1 H hP hD hS => ?_)
  have hP : va_P D vwCl ((h0, .inr (8, [.null, .int 0])) :: [(q1, .inl (Ar 0, 8, .inl (fun _ => 0)))]) H := hP
  have hD : va_D (x_A h0 s.heap.size) ((h0, .inr (8, [.null, .int 0])) :: [(q1, .inl (Ar 0, 8, .inl (fun _ => 0)))]) := hD
  refine x_putF (v := .ref q1) hx hb hts hown hin hKK hP hD hS xf_la_9 rfl rfl (Nat.le_of_ble_eq_true rfl) d_la_init_9 (fun H locs hP hD hS => ?_)
  have hP : va_P D vwCl ((h0, .inr (8, [.ref q1, .int 0])) :: [(q1, .inl (Ar 0, 8, .inl (fun _ => 0)))]) H := hP
  have hD : va_D (x_A h0 s.heap.size) ((h0, .inr (8, [.ref q1, .int 0])) :: [(q1, .inl (Ar 0, 8, .inl (fun _ => 0)))]) := hD
  exact x_ret q1 hx hb hr hlk hP hD hS (by omega) (by omega) d_la_init_12

def w_ca (Ar : Nat → ClassId) (h0 : Nat) (u : (Nat × Nat × Nat × Nat × Nat × Nat) × Nat × Nat) : va_W := (h0, .inr (1, [.ref u.1.1, .ref u.1.2.1, .ref u.1.2.2.1, .ref u.1.2.2.2.1, .ref u.1.2.2.2.2.1, .ref u.1.2.2.2.2.2, .ref u.2.1, .ref u.2.2])) :: (([(u.1.1, .inl (Ar 0, 40, .inl (fun _ => 0))), (u.1.2.1, .inl (Ar 0, 40, .inl (fun _ => 0))), (u.1.2.2.1, .inl (Ar 0, 40, .inl (fun _ => 0))), (u.1.2.2.2.1, .inl (Ar 0, 40, .inl (fun _ => 0))), (u.1.2.2.2.2.1, .inl (Ar 0, 40, .inl (fun _ => 0))), (u.1.2.2.2.2.2, .inl (Ar 0, 40, .inl (fun _ => 0)))] ++ x_mw Ar u.2.1) ++ [(u.2.2, .inl (Ar 0, 8, .inl (fun _ => 0)))])
theorem xf_ca_9 : x_fp "BottleReturn$Catalogue" 9 1 0 true (.array .int) := ⟨T_ca, 8, ty_ca, rfl, by decide, in_ca, rfl, (wt_in (List.mem_of_getElem? (i := 34) (by decide +kernel)) rfl), tk_ca, nm_ca, rfl, tk_ca 0 (by decide)⟩
theorem xf_ca_15 : x_fp "BottleReturn$Catalogue" 15 1 1 true (.array .int) := ⟨T_ca, 8, ty_ca, rfl, by decide, in_ca, rfl, (wt_in (List.mem_of_getElem? (i := 35) (by decide +kernel)) rfl), tk_ca, nm_ca, rfl, tk_ca 1 (by decide)⟩
theorem xf_ca_18 : x_fp "BottleReturn$Catalogue" 18 1 2 true (.array .int) := ⟨T_ca, 8, ty_ca, rfl, by decide, in_ca, rfl, (wt_in (List.mem_of_getElem? (i := 37) (by decide +kernel)) rfl), tk_ca, nm_ca, rfl, tk_ca 2 (by decide)⟩
theorem xf_ca_21 : x_fp "BottleReturn$Catalogue" 21 1 3 true (.array .int) := ⟨T_ca, 8, ty_ca, rfl, by decide, in_ca, rfl, (wt_in (List.mem_of_getElem? (i := 39) (by decide +kernel)) rfl), tk_ca, nm_ca, rfl, tk_ca 3 (by decide)⟩
theorem xf_ca_24 : x_fp "BottleReturn$Catalogue" 24 1 4 true (.array .int) := ⟨T_ca, 8, ty_ca, rfl, by decide, in_ca, rfl, (wt_in (List.mem_of_getElem? (i := 40) (by decide +kernel)) rfl), tk_ca, nm_ca, rfl, tk_ca 4 (by decide)⟩
theorem xf_ca_27 : x_fp "BottleReturn$Catalogue" 27 1 5 true (.array .int) := ⟨T_ca, 8, ty_ca, rfl, by decide, in_ca, rfl, (wt_in (List.mem_of_getElem? (i := 41) (by decide +kernel)) rfl), tk_ca, nm_ca, rfl, tk_ca 5 (by decide)⟩
theorem xf_ca_32 : x_fp "BottleReturn$Catalogue" 32 1 6 true (.array (.array .int)) := ⟨T_ca, 8, ty_ca, rfl, by decide, in_ca, rfl, (wt_in (List.mem_of_getElem? (i := 42) (by decide +kernel)) rfl), tk_ca, nm_ca, rfl, tk_ca 6 (by decide)⟩
theorem xf_ca_35 : x_fp "BottleReturn$Catalogue" 35 1 7 true (.array .int) := ⟨T_ca, 8, ty_ca, rfl, by decide, in_ca, rfl, (wt_in (List.mem_of_getElem? (i := 43) (by decide +kernel)) rfl), tk_ca, nm_ca, rfl, tk_ca 7 (by decide)⟩
set_option maxHeartbeats 4000000 in
set_option maxRecDepth 20000 in
theorem k_ca (l : Launch) (D : va_G) (Ar : Nat → ClassId) : x_C l y_ca_init c_ca_init 1 1 16 320 D Ar [] (.inr (1, [.null, .null, .null, .null, .null, .null, .null, .null])) (w_ca Ar) := by
  refine x_ofW (by decide) rfl (fun _ => Nat.le_of_ble_eq_true rfl) ?_
  intro p e s m args below meth c R h0 ls hRf hRl hRc hRs hx hb hr hlk hml hin hts hown hK hl hP hD
  have hA : ∀ q : Nat, s.heap.size ≤ q → x_A h0 s.heap.size q := fun q h => Or.inr h
  have hS : va_S (x_A h0 s.heap.size) s.heap s.heap [] := va_S.rf
  have hKK := hK.1
  have hl : lv_has ls 1 [(0, .ref h0)] := hl
  have hown : s.vm.findClass "BottleReturn$Catalogue" = some m.cls := hown
  refine x_obj hx hb hml hown hts (by omega) (by omega) (wt_in (List.mem_of_getElem? (i := 31) (by decide +kernel)) rfl) (wt_in (List.mem_of_getElem? (i := 24) (by decide +kernel)) rfl) (wt_in (List.mem_of_getElem? (i := 25) (by decide +kernel)) rfl) hl d_ca_init_0 d_ca_init_1 ?_
  refine lv_aload_n hx hb d_ca_init_4 rfl (lv_at hl 0 rfl) ?_
  refine lv_bipush (v := 40) hx hb d_ca_init_5 (by decide) ?_
  refine x_newa (atype := .int) (ty := .int) (a0 := .inl (fun _ => 0)) (N := 40) 0 hx hb hts (wt_in (List.mem_of_getElem? (i := 61) (by decide +kernel)) rfl) rfl rfl hKK hP hD hS hA (x_hai _) (by decide) (by decide) (Nat.le_of_ble_eq_true rfl) (by omega) (by omega) d_ca_init_7 (fun q1 H hP hD hS => ?_)
  have hP : va_P D vwCl ((h0, .inr (1, [.null, .null, .null, .null, .null, .null, .null, .null])) :: [(q1, .inl (Ar 0, 40, .inl (fun _ => 0)))]) H := hP
  have hD : va_D (x_A h0 s.heap.size) ((h0, .inr (1, [.null, .null, .null, .null, .null, .null, .null, .null])) :: [(q1, .inl (Ar 0, 40, .inl (fun _ => 0)))]) := hD
  refine x_putF (v := .ref q1) hx hb hts hown hin hKK hP hD hS xf_ca_9 rfl rfl (Nat.le_of_ble_eq_true rfl) d_ca_init_9 (fun H locs hP hD hS => ?_)
  have hP : va_P D vwCl ((h0, .inr (1, [.ref q1, .null, .null, .null, .null, .null, .null, .null])) :: [(q1, .inl (Ar 0, 40, .inl (fun _ => 0)))]) H := hP
  have hD : va_D (x_A h0 s.heap.size) ((h0, .inr (1, [.ref q1, .null, .null, .null, .null, .null, .null, .null])) :: [(q1, .inl (Ar 0, 40, .inl (fun _ => 0)))]) := hD
  refine lv_aload_n hx hb d_ca_init_12 rfl (lv_at hl 0 rfl) ?_
  refine lv_bipush (v := 40) hx hb d_ca_init_13 (by decide) ?_
  refine x_newa (atype := .int) (ty := .int) (a0 := .inl (fun _ => 0)) (N := 40) 0 hx hb hts (wt_in (List.mem_of_getElem? (i := 61) (by decide +kernel)) rfl) rfl rfl hKK hP hD hS hA (x_hai _) (by decide) (by decide) (Nat.le_of_ble_eq_true rfl) (by omega) (by omega) d_ca_init_15 (fun q2 H hP hD hS => ?_)
  have hP : va_P D vwCl ((h0, .inr (1, [.ref q1, .null, .null, .null, .null, .null, .null, .null])) :: [(q1, .inl (Ar 0, 40, .inl (fun _ => 0))), (q2, .inl (Ar 0, 40, .inl (fun _ => 0)))]) H := hP
  have hD : va_D (x_A h0 s.heap.size) ((h0, .inr (1, [.ref q1, .null, .null, .null, .null, .null, .null, .null])) :: [(q1, .inl (Ar 0, 40, .inl (fun _ => 0))), (q2, .inl (Ar 0, 40, .inl (fun _ => 0)))]) := hD
  refine x_putF (v := .ref q2) hx hb hts hown hin hKK hP hD hS xf_ca_15 rfl rfl (Nat.le_of_ble_eq_true rfl) d_ca_init_17 (fun H locs hP hD hS => ?_)
  have hP : va_P D vwCl ((h0, .inr (1, [.ref q1, .ref q2, .null, .null, .null, .null, .null, .null])) :: [(q1, .inl (Ar 0, 40, .inl (fun _ => 0))), (q2, .inl (Ar 0, 40, .inl (fun _ => 0)))]) H := hP
  have hD : va_D (x_A h0 s.heap.size) ((h0, .inr (1, [.ref q1, .ref q2, .null, .null, .null, .null, .null, .null])) :: [(q1, .inl (Ar 0, 40, .inl (fun _ => 0))), (q2, .inl (Ar 0, 40, .inl (fun _ => 0)))]) := hD
  refine lv_aload_n hx hb d_ca_init_20 rfl (lv_at hl 0 rfl) ?_
  refine lv_bipush (v := 40) hx hb d_ca_init_21 (by decide) ?_
  refine x_newa (atype := .int) (ty := .int) (a0 := .inl (fun _ => 0)) (N := 40) 0 hx hb hts (wt_in (List.mem_of_getElem? (i := 61) (by decide +kernel)) rfl) rfl rfl hKK hP hD hS hA (x_hai _) (by decide) (by decide) (Nat.le_of_ble_eq_true rfl) (by omega) (by omega) d_ca_init_23 (fun q3 H hP hD hS => ?_)
  have hP : va_P D vwCl ((h0, .inr (1, [.ref q1, .ref q2, .null, .null, .null, .null, .null, .null])) :: [(q1, .inl (Ar 0, 40, .inl (fun _ => 0))), (q2, .inl (Ar 0, 40, .inl (fun _ => 0))), (q3, .inl (Ar 0, 40, .inl (fun _ => 0)))]) H := hP
  have hD : va_D (x_A h0 s.heap.size) ((h0, .inr (1, [.ref q1, .ref q2, .null, .null, .null, .null, .null, .null])) :: [(q1, .inl (Ar 0, 40, .inl (fun _ => 0))), (q2, .inl (Ar 0, 40, .inl (fun _ => 0))), (q3, .inl (Ar 0, 40, .inl (fun _ => 0)))]) := hD
  refine x_putF (v := .ref q3) hx hb hts hown hin hKK hP hD hS xf_ca_18 rfl rfl (Nat.le_of_ble_eq_true rfl) d_ca_init_25 (fun H locs hP hD hS => ?_)
  have hP : va_P D vwCl ((h0, .inr (1, [.ref q1, .ref q2, .ref q3, .null, .null, .null, .null, .null])) :: [(q1, .inl (Ar 0, 40, .inl (fun _ => 0))), (q2, .inl (Ar 0, 40, .inl (fun _ => 0))), (q3, .inl (Ar 0, 40, .inl (fun _ => 0)))]) H := hP
  have hD : va_D (x_A h0 s.heap.size) ((h0, .inr (1, [.ref q1, .ref q2, .ref q3, .null, .null, .null, .null, .null])) :: [(q1, .inl (Ar 0, 40, .inl (fun _ => 0))), (q2, .inl (Ar 0, 40, .inl (fun _ => 0))), (q3, .inl (Ar 0, 40, .inl (fun _ => 0)))]) := hD
  refine lv_aload_n hx hb d_ca_init_28 rfl (lv_at hl 0 rfl) ?_
  refine lv_bipush (v := 40) hx hb d_ca_init_29 (by decide) ?_
  refine x_newa (atype := .int) (ty := .int) (a0 := .inl (fun _ => 0)) (N := 40) 0 hx hb hts (wt_in (List.mem_of_getElem? (i := 61) (by decide +kernel)) rfl) rfl rfl hKK hP hD hS hA (x_hai _) (by decide) (by decide) (Nat.le_of_ble_eq_true rfl) (by omega) (by omega) d_ca_init_31 (fun q4 H hP hD hS => ?_)
  have hP : va_P D vwCl ((h0, .inr (1, [.ref q1, .ref q2, .ref q3, .null, .null, .null, .null, .null])) :: [(q1, .inl (Ar 0, 40, .inl (fun _ => 0))), (q2, .inl (Ar 0, 40, .inl (fun _ => 0))), (q3, .inl (Ar 0, 40, .inl (fun _ => 0))), (q4, .inl (Ar 0, 40, .inl (fun _ => 0)))]) H := hP
  have hD : va_D (x_A h0 s.heap.size) ((h0, .inr (1, [.ref q1, .ref q2, .ref q3, .null, .null, .null, .null, .null])) :: [(q1, .inl (Ar 0, 40, .inl (fun _ => 0))), (q2, .inl (Ar 0, 40, .inl (fun _ => 0))), (q3, .inl (Ar 0, 40, .inl (fun _ => 0))), (q4, .inl (Ar 0, 40, .inl (fun _ => 0)))]) := hD
  refine x_putF (v := .ref q4) hx hb hts hown hin hKK hP hD hS xf_ca_21 rfl rfl (Nat.le_of_ble_eq_true rfl) d_ca_init_33 (fun H locs hP hD hS => ?_)
  have hP : va_P D vwCl ((h0, .inr (1, [.ref q1, .ref q2, .ref q3, .ref q4, .null, .null, .null, .null])) :: [(q1, .inl (Ar 0, 40, .inl (fun _ => 0))), (q2, .inl (Ar 0, 40, .inl (fun _ => 0))), (q3, .inl (Ar 0, 40, .inl (fun _ => 0))), (q4, .inl (Ar 0, 40, .inl (fun _ => 0)))]) H := hP
  have hD : va_D (x_A h0 s.heap.size) ((h0, .inr (1, [.ref q1, .ref q2, .ref q3, .ref q4, .null, .null, .null, .null])) :: [(q1, .inl (Ar 0, 40, .inl (fun _ => 0))), (q2, .inl (Ar 0, 40, .inl (fun _ => 0))), (q3, .inl (Ar 0, 40, .inl (fun _ => 0))), (q4, .inl (Ar 0, 40, .inl (fun _ => 0)))]) := hD
  refine lv_aload_n hx hb d_ca_init_36 rfl (lv_at hl 0 rfl) ?_
  refine lv_bipush (v := 40) hx hb d_ca_init_37 (by decide) ?_
  refine x_newa (atype := .int) (ty := .int) (a0 := .inl (fun _ => 0)) (N := 40) 0 hx hb hts (wt_in (List.mem_of_getElem? (i := 61) (by decide +kernel)) rfl) rfl rfl hKK hP hD hS hA (x_hai _) (by decide) (by decide) (Nat.le_of_ble_eq_true rfl) (by omega) (by omega) d_ca_init_39 (fun q5 H hP hD hS => ?_)
  have hP : va_P D vwCl ((h0, .inr (1, [.ref q1, .ref q2, .ref q3, .ref q4, .null, .null, .null, .null])) :: [(q1, .inl (Ar 0, 40, .inl (fun _ => 0))), (q2, .inl (Ar 0, 40, .inl (fun _ => 0))), (q3, .inl (Ar 0, 40, .inl (fun _ => 0))), (q4, .inl (Ar 0, 40, .inl (fun _ => 0))), (q5, .inl (Ar 0, 40, .inl (fun _ => 0)))]) H := hP
  have hD : va_D (x_A h0 s.heap.size) ((h0, .inr (1, [.ref q1, .ref q2, .ref q3, .ref q4, .null, .null, .null, .null])) :: [(q1, .inl (Ar 0, 40, .inl (fun _ => 0))), (q2, .inl (Ar 0, 40, .inl (fun _ => 0))), (q3, .inl (Ar 0, 40, .inl (fun _ => 0))), (q4, .inl (Ar 0, 40, .inl (fun _ => 0))), (q5, .inl (Ar 0, 40, .inl (fun _ => 0)))]) := hD
  refine x_putF (v := .ref q5) hx hb hts hown hin hKK hP hD hS xf_ca_24 rfl rfl (Nat.le_of_ble_eq_true rfl) d_ca_init_41 (fun H locs hP hD hS => ?_)
  have hP : va_P D vwCl ((h0, .inr (1, [.ref q1, .ref q2, .ref q3, .ref q4, .ref q5, .null, .null, .null])) :: [(q1, .inl (Ar 0, 40, .inl (fun _ => 0))), (q2, .inl (Ar 0, 40, .inl (fun _ => 0))), (q3, .inl (Ar 0, 40, .inl (fun _ => 0))), (q4, .inl (Ar 0, 40, .inl (fun _ => 0))), (q5, .inl (Ar 0, 40, .inl (fun _ => 0)))]) H := hP
  have hD : va_D (x_A h0 s.heap.size) ((h0, .inr (1, [.ref q1, .ref q2, .ref q3, .ref q4, .ref q5, .null, .null, .null])) :: [(q1, .inl (Ar 0, 40, .inl (fun _ => 0))), (q2, .inl (Ar 0, 40, .inl (fun _ => 0))), (q3, .inl (Ar 0, 40, .inl (fun _ => 0))), (q4, .inl (Ar 0, 40, .inl (fun _ => 0))), (q5, .inl (Ar 0, 40, .inl (fun _ => 0)))]) := hD
  refine lv_aload_n hx hb d_ca_init_44 rfl (lv_at hl 0 rfl) ?_
  refine lv_bipush (v := 40) hx hb d_ca_init_45 (by decide) ?_
  refine x_newa (atype := .int) (ty := .int) (a0 := .inl (fun _ => 0)) (N := 40) 0 hx hb hts (wt_in (List.mem_of_getElem? (i := 61) (by decide +kernel)) rfl) rfl rfl hKK hP hD hS hA (x_hai _) (by decide) (by decide) (Nat.le_of_ble_eq_true rfl) (by omega) (by omega) d_ca_init_47 (fun q6 H hP hD hS => ?_)
  have hP : va_P D vwCl ((h0, .inr (1, [.ref q1, .ref q2, .ref q3, .ref q4, .ref q5, .null, .null, .null])) :: [(q1, .inl (Ar 0, 40, .inl (fun _ => 0))), (q2, .inl (Ar 0, 40, .inl (fun _ => 0))), (q3, .inl (Ar 0, 40, .inl (fun _ => 0))), (q4, .inl (Ar 0, 40, .inl (fun _ => 0))), (q5, .inl (Ar 0, 40, .inl (fun _ => 0))), (q6, .inl (Ar 0, 40, .inl (fun _ => 0)))]) H := hP
  have hD : va_D (x_A h0 s.heap.size) ((h0, .inr (1, [.ref q1, .ref q2, .ref q3, .ref q4, .ref q5, .null, .null, .null])) :: [(q1, .inl (Ar 0, 40, .inl (fun _ => 0))), (q2, .inl (Ar 0, 40, .inl (fun _ => 0))), (q3, .inl (Ar 0, 40, .inl (fun _ => 0))), (q4, .inl (Ar 0, 40, .inl (fun _ => 0))), (q5, .inl (Ar 0, 40, .inl (fun _ => 0))), (q6, .inl (Ar 0, 40, .inl (fun _ => 0)))]) := hD
  refine x_putF (v := .ref q6) hx hb hts hown hin hKK hP hD hS xf_ca_27 rfl rfl (Nat.le_of_ble_eq_true rfl) d_ca_init_49 (fun H locs hP hD hS => ?_)
  have hP : va_P D vwCl ((h0, .inr (1, [.ref q1, .ref q2, .ref q3, .ref q4, .ref q5, .ref q6, .null, .null])) :: [(q1, .inl (Ar 0, 40, .inl (fun _ => 0))), (q2, .inl (Ar 0, 40, .inl (fun _ => 0))), (q3, .inl (Ar 0, 40, .inl (fun _ => 0))), (q4, .inl (Ar 0, 40, .inl (fun _ => 0))), (q5, .inl (Ar 0, 40, .inl (fun _ => 0))), (q6, .inl (Ar 0, 40, .inl (fun _ => 0)))]) H := hP
  have hD : va_D (x_A h0 s.heap.size) ((h0, .inr (1, [.ref q1, .ref q2, .ref q3, .ref q4, .ref q5, .ref q6, .null, .null])) :: [(q1, .inl (Ar 0, 40, .inl (fun _ => 0))), (q2, .inl (Ar 0, 40, .inl (fun _ => 0))), (q3, .inl (Ar 0, 40, .inl (fun _ => 0))), (q4, .inl (Ar 0, 40, .inl (fun _ => 0))), (q5, .inl (Ar 0, 40, .inl (fun _ => 0))), (q6, .inl (Ar 0, 40, .inl (fun _ => 0)))]) := hD
  refine lv_aload_n hx hb d_ca_init_52 rfl (lv_at hl 0 rfl) ?_
  refine lv_bipush (v := 8) hx hb d_ca_init_53 (by decide) ?_
  refine lv_bipush (v := 8) hx hb d_ca_init_55 (by decide) ?_
  refine x_multi hx hb hts hown hK hP hD hS hA (wt_in (List.mem_of_getElem? (i := 32) (by decide +kernel)) rfl) (by omega) (by omega) d_ca_init_57 (fun q7 H locs hP hD hS => ?_)
  have hP : va_P D vwCl ((h0, .inr (1, [.ref q1, .ref q2, .ref q3, .ref q4, .ref q5, .ref q6, .null, .null])) :: ([(q1, .inl (Ar 0, 40, .inl (fun _ => 0))), (q2, .inl (Ar 0, 40, .inl (fun _ => 0))), (q3, .inl (Ar 0, 40, .inl (fun _ => 0))), (q4, .inl (Ar 0, 40, .inl (fun _ => 0))), (q5, .inl (Ar 0, 40, .inl (fun _ => 0))), (q6, .inl (Ar 0, 40, .inl (fun _ => 0)))] ++ x_mw Ar q7)) H := hP
  have hD : va_D (x_A h0 s.heap.size) ((h0, .inr (1, [.ref q1, .ref q2, .ref q3, .ref q4, .ref q5, .ref q6, .null, .null])) :: ([(q1, .inl (Ar 0, 40, .inl (fun _ => 0))), (q2, .inl (Ar 0, 40, .inl (fun _ => 0))), (q3, .inl (Ar 0, 40, .inl (fun _ => 0))), (q4, .inl (Ar 0, 40, .inl (fun _ => 0))), (q5, .inl (Ar 0, 40, .inl (fun _ => 0))), (q6, .inl (Ar 0, 40, .inl (fun _ => 0)))] ++ x_mw Ar q7)) := hD
  refine x_putF (v := .ref q7) hx hb hts hown hin hKK hP hD hS xf_ca_32 rfl rfl (Nat.le_of_ble_eq_true rfl) d_ca_init_61 (fun H locs hP hD hS => ?_)
  have hP : va_P D vwCl ((h0, .inr (1, [.ref q1, .ref q2, .ref q3, .ref q4, .ref q5, .ref q6, .ref q7, .null])) :: ([(q1, .inl (Ar 0, 40, .inl (fun _ => 0))), (q2, .inl (Ar 0, 40, .inl (fun _ => 0))), (q3, .inl (Ar 0, 40, .inl (fun _ => 0))), (q4, .inl (Ar 0, 40, .inl (fun _ => 0))), (q5, .inl (Ar 0, 40, .inl (fun _ => 0))), (q6, .inl (Ar 0, 40, .inl (fun _ => 0)))] ++ x_mw Ar q7)) H := hP
  have hD : va_D (x_A h0 s.heap.size) ((h0, .inr (1, [.ref q1, .ref q2, .ref q3, .ref q4, .ref q5, .ref q6, .ref q7, .null])) :: ([(q1, .inl (Ar 0, 40, .inl (fun _ => 0))), (q2, .inl (Ar 0, 40, .inl (fun _ => 0))), (q3, .inl (Ar 0, 40, .inl (fun _ => 0))), (q4, .inl (Ar 0, 40, .inl (fun _ => 0))), (q5, .inl (Ar 0, 40, .inl (fun _ => 0))), (q6, .inl (Ar 0, 40, .inl (fun _ => 0)))] ++ x_mw Ar q7)) := hD
  refine lv_aload_n hx hb d_ca_init_64 rfl (lv_at hl 0 rfl) ?_
  refine lv_bipush (v := 8) hx hb d_ca_init_65 (by decide) ?_
  refine x_newa (atype := .int) (ty := .int) (a0 := .inl (fun _ => 0)) (N := 8) 0 hx hb hts (wt_in (List.mem_of_getElem? (i := 61) (by decide +kernel)) rfl) rfl rfl hKK hP hD hS hA (x_hai _) (by decide) (by decide) (Nat.le_of_ble_eq_true rfl) (by omega) (by omega) d_ca_init_67 (fun q8 H hP hD hS => ?_)
  have hP : va_P D vwCl ((h0, .inr (1, [.ref q1, .ref q2, .ref q3, .ref q4, .ref q5, .ref q6, .ref q7, .null])) :: (([(q1, .inl (Ar 0, 40, .inl (fun _ => 0))), (q2, .inl (Ar 0, 40, .inl (fun _ => 0))), (q3, .inl (Ar 0, 40, .inl (fun _ => 0))), (q4, .inl (Ar 0, 40, .inl (fun _ => 0))), (q5, .inl (Ar 0, 40, .inl (fun _ => 0))), (q6, .inl (Ar 0, 40, .inl (fun _ => 0)))] ++ x_mw Ar q7) ++ [(q8, .inl (Ar 0, 8, .inl (fun _ => 0)))])) H := hP
  have hD : va_D (x_A h0 s.heap.size) ((h0, .inr (1, [.ref q1, .ref q2, .ref q3, .ref q4, .ref q5, .ref q6, .ref q7, .null])) :: (([(q1, .inl (Ar 0, 40, .inl (fun _ => 0))), (q2, .inl (Ar 0, 40, .inl (fun _ => 0))), (q3, .inl (Ar 0, 40, .inl (fun _ => 0))), (q4, .inl (Ar 0, 40, .inl (fun _ => 0))), (q5, .inl (Ar 0, 40, .inl (fun _ => 0))), (q6, .inl (Ar 0, 40, .inl (fun _ => 0)))] ++ x_mw Ar q7) ++ [(q8, .inl (Ar 0, 8, .inl (fun _ => 0)))])) := hD
  refine x_putF (v := .ref q8) hx hb hts hown hin hKK hP hD hS xf_ca_35 rfl rfl (Nat.le_of_ble_eq_true rfl) d_ca_init_69 (fun H locs hP hD hS => ?_)
  have hP : va_P D vwCl ((h0, .inr (1, [.ref q1, .ref q2, .ref q3, .ref q4, .ref q5, .ref q6, .ref q7, .ref q8])) :: (([(q1, .inl (Ar 0, 40, .inl (fun _ => 0))), (q2, .inl (Ar 0, 40, .inl (fun _ => 0))), (q3, .inl (Ar 0, 40, .inl (fun _ => 0))), (q4, .inl (Ar 0, 40, .inl (fun _ => 0))), (q5, .inl (Ar 0, 40, .inl (fun _ => 0))), (q6, .inl (Ar 0, 40, .inl (fun _ => 0)))] ++ x_mw Ar q7) ++ [(q8, .inl (Ar 0, 8, .inl (fun _ => 0)))])) H := hP
  have hD : va_D (x_A h0 s.heap.size) ((h0, .inr (1, [.ref q1, .ref q2, .ref q3, .ref q4, .ref q5, .ref q6, .ref q7, .ref q8])) :: (([(q1, .inl (Ar 0, 40, .inl (fun _ => 0))), (q2, .inl (Ar 0, 40, .inl (fun _ => 0))), (q3, .inl (Ar 0, 40, .inl (fun _ => 0))), (q4, .inl (Ar 0, 40, .inl (fun _ => 0))), (q5, .inl (Ar 0, 40, .inl (fun _ => 0))), (q6, .inl (Ar 0, 40, .inl (fun _ => 0)))] ++ x_mw Ar q7) ++ [(q8, .inl (Ar 0, 8, .inl (fun _ => 0)))])) := hD
  exact x_ret ((q1, q2, q3, q4, q5, q6), q7, q8) hx hb hr hlk hP hD hS (by omega) (by omega) d_ca_init_72

def w_m (Ar : Nat → ClassId) (h0 : Nat) (u : Nat × Nat × Nat × Nat × Nat × Nat × Nat × Nat × Nat × Nat × Nat) : va_W := [(h0, .inr (9, [.ref u.1, .ref u.2.1, .ref u.2.2.1, .ref u.2.2.2.1, .int 0, .int 0, .ref u.2.2.2.2.1, .ref u.2.2.2.2.2.1, .int 0, .ref u.2.2.2.2.2.2.1, .ref u.2.2.2.2.2.2.2.1, .ref u.2.2.2.2.2.2.2.2.1, .int 0, .int 0, .ref u.2.2.2.2.2.2.2.2.2.1, .int 0, .int 0, .int 0, .int 0, .int 0, .ref u.2.2.2.2.2.2.2.2.2.2, .int 0, .int 0, .int 0, .int 0, .int 0])), (u.1, .inl (Ar 0, 64, .inl (fun _ => 0))), (u.2.1, .inl (Ar 0, 8, .inl (fun _ => 0))), (u.2.2.1, .inl (Ar 0, 240, .inl (fun _ => 0))), (u.2.2.2.1, .inl (Ar 0, 1200, .inl (fun _ => 0))), (u.2.2.2.2.1, .inl (Ar 0, 3, .inl (fun _ => 0))), (u.2.2.2.2.2.1, .inl (Ar 0, 3, .inl (fun _ => 30))), (u.2.2.2.2.2.2.1, .inl (Ar 0, 60, .inl (fun _ => 0))), (u.2.2.2.2.2.2.2.1, .inl (Ar 0, 60, .inl (fun _ => 0))), (u.2.2.2.2.2.2.2.2.1, .inl (Ar 1, 60, .inl (fun _ => 0))), (u.2.2.2.2.2.2.2.2.2.1, .inl (Ar 0, 24, .inl (fun _ => 0))), (u.2.2.2.2.2.2.2.2.2.2, .inl (Ar 0, 10, .inl (fun _ => 0)))]
theorem xf_m_7 : x_fp "BottleReturnModel" 7 9 0 true (.array .int) := ⟨T_m, 26, ty_m, rfl, by decide, in_m, rfl, (wt_in (List.mem_of_getElem? (i := 717) (by decide +kernel)) rfl), tk_m, nm_m, rfl, tk_m 0 (by decide)⟩
theorem xf_m_13 : x_fp "BottleReturnModel" 13 9 1 true (.array .int) := ⟨T_m, 26, ty_m, rfl, by decide, in_m, rfl, (wt_in (List.mem_of_getElem? (i := 718) (by decide +kernel)) rfl), tk_m, nm_m, rfl, tk_m 1 (by decide)⟩
theorem xf_m_16 : x_fp "BottleReturnModel" 16 9 2 true (.array .int) := ⟨T_m, 26, ty_m, rfl, by decide, in_m, rfl, (wt_in (List.mem_of_getElem? (i := 719) (by decide +kernel)) rfl), tk_m, nm_m, rfl, tk_m 2 (by decide)⟩
theorem xf_m_19 : x_fp "BottleReturnModel" 19 9 3 true (.array .int) := ⟨T_m, 26, ty_m, rfl, by decide, in_m, rfl, (wt_in (List.mem_of_getElem? (i := 720) (by decide +kernel)) rfl), tk_m, nm_m, rfl, tk_m 3 (by decide)⟩
theorem xf_m_22 : x_fp "BottleReturnModel" 22 9 6 true (.array .int) := ⟨T_m, 26, ty_m, rfl, by decide, in_m, rfl, (wt_in (List.mem_of_getElem? (i := 723) (by decide +kernel)) rfl), tk_m, nm_m, rfl, tk_m 6 (by decide)⟩
theorem xf_m_25 : x_fp "BottleReturnModel" 25 9 7 true (.array .int) := ⟨T_m, 26, ty_m, rfl, by decide, in_m, rfl, (wt_in (List.mem_of_getElem? (i := 724) (by decide +kernel)) rfl), tk_m, nm_m, rfl, tk_m 7 (by decide)⟩
theorem xf_m_28 : x_fp "BottleReturnModel" 28 9 9 true (.array .int) := ⟨T_m, 26, ty_m, rfl, by decide, in_m, rfl, (wt_in (List.mem_of_getElem? (i := 726) (by decide +kernel)) rfl), tk_m, nm_m, rfl, tk_m 9 (by decide)⟩
theorem xf_m_31 : x_fp "BottleReturnModel" 31 9 10 true (.array .int) := ⟨T_m, 26, ty_m, rfl, by decide, in_m, rfl, (wt_in (List.mem_of_getElem? (i := 727) (by decide +kernel)) rfl), tk_m, nm_m, rfl, tk_m 10 (by decide)⟩
theorem xf_m_34 : x_fp "BottleReturnModel" 34 9 11 true (.array .boolean) := ⟨T_m, 26, ty_m, rfl, by decide, in_m, rfl, (wt_in (List.mem_of_getElem? (i := 728) (by decide +kernel)) rfl), tk_m, nm_m, rfl, tk_m 11 (by decide)⟩
theorem xf_m_38 : x_fp "BottleReturnModel" 38 9 14 true (.array .int) := ⟨T_m, 26, ty_m, rfl, by decide, in_m, rfl, (wt_in (List.mem_of_getElem? (i := 731) (by decide +kernel)) rfl), tk_m, nm_m, rfl, tk_m 14 (by decide)⟩
theorem xf_m_41 : x_fp "BottleReturnModel" 41 9 20 true (.array .int) := ⟨T_m, 26, ty_m, rfl, by decide, in_m, rfl, (wt_in (List.mem_of_getElem? (i := 737) (by decide +kernel)) rfl), tk_m, nm_m, rfl, tk_m 20 (by decide)⟩
set_option maxHeartbeats 4000000 in
set_option maxRecDepth 20000 in
theorem k_m (l : Launch) (D : va_G) (Ar : Nat → ClassId) : x_C l y_m_init c_m_init 2 1 11 1732 D Ar [] (.inr (9, [.null, .null, .null, .null, .int 0, .int 0, .null, .null, .int 0, .null, .null, .null, .int 0, .int 0, .null, .int 0, .int 0, .int 0, .int 0, .int 0, .null, .int 0, .int 0, .int 0, .int 0, .int 0])) (w_m Ar) := by
  refine x_ofW (by decide) rfl (fun _ => Nat.le_of_ble_eq_true rfl) ?_
  intro p e s m args below meth c R h0 ls hRf hRl hRc hRs hx hb hr hlk hml hin hts hown hK hl hP hD
  have hA : ∀ q : Nat, s.heap.size ≤ q → x_A h0 s.heap.size q := fun q h => Or.inr h
  have hS : va_S (x_A h0 s.heap.size) s.heap s.heap [] := va_S.rf
  have hKK := hK.1
  have hl : lv_has ls 2 [(0, .ref h0)] := hl
  have hown : s.vm.findClass "BottleReturnModel" = some m.cls := hown
  refine x_obj hx hb hml hown hts (by omega) (by omega) (wt_in (List.mem_of_getElem? (i := 716) (by decide +kernel)) rfl) (wt_in (List.mem_of_getElem? (i := 24) (by decide +kernel)) rfl) (wt_in (List.mem_of_getElem? (i := 25) (by decide +kernel)) rfl) hl d_m_init_0 d_m_init_1 ?_
  refine lv_aload_n hx hb d_m_init_4 rfl (lv_at hl 0 rfl) ?_
  refine lv_bipush (v := 64) hx hb d_m_init_5 (by decide) ?_
  refine x_newa (atype := .int) (ty := .int) (a0 := .inl (fun _ => 0)) (N := 64) 0 hx hb hts (wt_in (List.mem_of_getElem? (i := 61) (by decide +kernel)) rfl) rfl rfl hKK hP hD hS hA (x_hai _) (by decide) (by decide) (Nat.le_of_ble_eq_true rfl) (by omega) (by omega) d_m_init_7 (fun q1 H hP hD hS => ?_)
  have hP : va_P D vwCl ((h0, .inr (9, [.null, .null, .null, .null, .int 0, .int 0, .null, .null, .int 0, .null, .null, .null, .int 0, .int 0, .null, .int 0, .int 0, .int 0, .int 0, .int 0, .null, .int 0, .int 0, .int 0, .int 0, .int 0])) :: [(q1, .inl (Ar 0, 64, .inl (fun _ => 0)))]) H := hP
  have hD : va_D (x_A h0 s.heap.size) ((h0, .inr (9, [.null, .null, .null, .null, .int 0, .int 0, .null, .null, .int 0, .null, .null, .null, .int 0, .int 0, .null, .int 0, .int 0, .int 0, .int 0, .int 0, .null, .int 0, .int 0, .int 0, .int 0, .int 0])) :: [(q1, .inl (Ar 0, 64, .inl (fun _ => 0)))]) := hD
  refine x_putF (v := .ref q1) hx hb hts hown hin hKK hP hD hS xf_m_7 rfl rfl (Nat.le_of_ble_eq_true rfl) d_m_init_9 (fun H locs hP hD hS => ?_)
  have hP : va_P D vwCl ((h0, .inr (9, [.ref q1, .null, .null, .null, .int 0, .int 0, .null, .null, .int 0, .null, .null, .null, .int 0, .int 0, .null, .int 0, .int 0, .int 0, .int 0, .int 0, .null, .int 0, .int 0, .int 0, .int 0, .int 0])) :: [(q1, .inl (Ar 0, 64, .inl (fun _ => 0)))]) H := hP
  have hD : va_D (x_A h0 s.heap.size) ((h0, .inr (9, [.ref q1, .null, .null, .null, .int 0, .int 0, .null, .null, .int 0, .null, .null, .null, .int 0, .int 0, .null, .int 0, .int 0, .int 0, .int 0, .int 0, .null, .int 0, .int 0, .int 0, .int 0, .int 0])) :: [(q1, .inl (Ar 0, 64, .inl (fun _ => 0)))]) := hD
  refine lv_aload_n hx hb d_m_init_12 rfl (lv_at hl 0 rfl) ?_
  refine lv_bipush (v := 8) hx hb d_m_init_13 (by decide) ?_
  refine x_newa (atype := .int) (ty := .int) (a0 := .inl (fun _ => 0)) (N := 8) 0 hx hb hts (wt_in (List.mem_of_getElem? (i := 61) (by decide +kernel)) rfl) rfl rfl hKK hP hD hS hA (x_hai _) (by decide) (by decide) (Nat.le_of_ble_eq_true rfl) (by omega) (by omega) d_m_init_15 (fun q2 H hP hD hS => ?_)
  have hP : va_P D vwCl ((h0, .inr (9, [.ref q1, .null, .null, .null, .int 0, .int 0, .null, .null, .int 0, .null, .null, .null, .int 0, .int 0, .null, .int 0, .int 0, .int 0, .int 0, .int 0, .null, .int 0, .int 0, .int 0, .int 0, .int 0])) :: [(q1, .inl (Ar 0, 64, .inl (fun _ => 0))), (q2, .inl (Ar 0, 8, .inl (fun _ => 0)))]) H := hP
  have hD : va_D (x_A h0 s.heap.size) ((h0, .inr (9, [.ref q1, .null, .null, .null, .int 0, .int 0, .null, .null, .int 0, .null, .null, .null, .int 0, .int 0, .null, .int 0, .int 0, .int 0, .int 0, .int 0, .null, .int 0, .int 0, .int 0, .int 0, .int 0])) :: [(q1, .inl (Ar 0, 64, .inl (fun _ => 0))), (q2, .inl (Ar 0, 8, .inl (fun _ => 0)))]) := hD
  refine x_putF (v := .ref q2) hx hb hts hown hin hKK hP hD hS xf_m_13 rfl rfl (Nat.le_of_ble_eq_true rfl) d_m_init_17 (fun H locs hP hD hS => ?_)
  have hP : va_P D vwCl ((h0, .inr (9, [.ref q1, .ref q2, .null, .null, .int 0, .int 0, .null, .null, .int 0, .null, .null, .null, .int 0, .int 0, .null, .int 0, .int 0, .int 0, .int 0, .int 0, .null, .int 0, .int 0, .int 0, .int 0, .int 0])) :: [(q1, .inl (Ar 0, 64, .inl (fun _ => 0))), (q2, .inl (Ar 0, 8, .inl (fun _ => 0)))]) H := hP
  have hD : va_D (x_A h0 s.heap.size) ((h0, .inr (9, [.ref q1, .ref q2, .null, .null, .int 0, .int 0, .null, .null, .int 0, .null, .null, .null, .int 0, .int 0, .null, .int 0, .int 0, .int 0, .int 0, .int 0, .null, .int 0, .int 0, .int 0, .int 0, .int 0])) :: [(q1, .inl (Ar 0, 64, .inl (fun _ => 0))), (q2, .inl (Ar 0, 8, .inl (fun _ => 0)))]) := hD
  refine lv_aload_n hx hb d_m_init_20 rfl (lv_at hl 0 rfl) ?_
  refine lv_sipush (v := 240) hx hb d_m_init_21 (by decide) ?_
  refine x_newa (atype := .int) (ty := .int) (a0 := .inl (fun _ => 0)) (N := 240) 0 hx hb hts (wt_in (List.mem_of_getElem? (i := 61) (by decide +kernel)) rfl) rfl rfl hKK hP hD hS hA (x_hai _) (by decide) (by decide) (Nat.le_of_ble_eq_true rfl) (by omega) (by omega) d_m_init_24 (fun q3 H hP hD hS => ?_)
  have hP : va_P D vwCl ((h0, .inr (9, [.ref q1, .ref q2, .null, .null, .int 0, .int 0, .null, .null, .int 0, .null, .null, .null, .int 0, .int 0, .null, .int 0, .int 0, .int 0, .int 0, .int 0, .null, .int 0, .int 0, .int 0, .int 0, .int 0])) :: [(q1, .inl (Ar 0, 64, .inl (fun _ => 0))), (q2, .inl (Ar 0, 8, .inl (fun _ => 0))), (q3, .inl (Ar 0, 240, .inl (fun _ => 0)))]) H := hP
  have hD : va_D (x_A h0 s.heap.size) ((h0, .inr (9, [.ref q1, .ref q2, .null, .null, .int 0, .int 0, .null, .null, .int 0, .null, .null, .null, .int 0, .int 0, .null, .int 0, .int 0, .int 0, .int 0, .int 0, .null, .int 0, .int 0, .int 0, .int 0, .int 0])) :: [(q1, .inl (Ar 0, 64, .inl (fun _ => 0))), (q2, .inl (Ar 0, 8, .inl (fun _ => 0))), (q3, .inl (Ar 0, 240, .inl (fun _ => 0)))]) := hD
  refine x_putF (v := .ref q3) hx hb hts hown hin hKK hP hD hS xf_m_16 rfl rfl (Nat.le_of_ble_eq_true rfl) d_m_init_26 (fun H locs hP hD hS => ?_)
  have hP : va_P D vwCl ((h0, .inr (9, [.ref q1, .ref q2, .ref q3, .null, .int 0, .int 0, .null, .null, .int 0, .null, .null, .null, .int 0, .int 0, .null, .int 0, .int 0, .int 0, .int 0, .int 0, .null, .int 0, .int 0, .int 0, .int 0, .int 0])) :: [(q1, .inl (Ar 0, 64, .inl (fun _ => 0))), (q2, .inl (Ar 0, 8, .inl (fun _ => 0))), (q3, .inl (Ar 0, 240, .inl (fun _ => 0)))]) H := hP
  have hD : va_D (x_A h0 s.heap.size) ((h0, .inr (9, [.ref q1, .ref q2, .ref q3, .null, .int 0, .int 0, .null, .null, .int 0, .null, .null, .null, .int 0, .int 0, .null, .int 0, .int 0, .int 0, .int 0, .int 0, .null, .int 0, .int 0, .int 0, .int 0, .int 0])) :: [(q1, .inl (Ar 0, 64, .inl (fun _ => 0))), (q2, .inl (Ar 0, 8, .inl (fun _ => 0))), (q3, .inl (Ar 0, 240, .inl (fun _ => 0)))]) := hD
  refine lv_aload_n hx hb d_m_init_29 rfl (lv_at hl 0 rfl) ?_
  refine lv_sipush (v := 1200) hx hb d_m_init_30 (by decide) ?_
  refine x_newa (atype := .int) (ty := .int) (a0 := .inl (fun _ => 0)) (N := 1200) 0 hx hb hts (wt_in (List.mem_of_getElem? (i := 61) (by decide +kernel)) rfl) rfl rfl hKK hP hD hS hA (x_hai _) (by decide) (by decide) (Nat.le_of_ble_eq_true rfl) (by omega) (by omega) d_m_init_33 (fun q4 H hP hD hS => ?_)
  have hP : va_P D vwCl ((h0, .inr (9, [.ref q1, .ref q2, .ref q3, .null, .int 0, .int 0, .null, .null, .int 0, .null, .null, .null, .int 0, .int 0, .null, .int 0, .int 0, .int 0, .int 0, .int 0, .null, .int 0, .int 0, .int 0, .int 0, .int 0])) :: [(q1, .inl (Ar 0, 64, .inl (fun _ => 0))), (q2, .inl (Ar 0, 8, .inl (fun _ => 0))), (q3, .inl (Ar 0, 240, .inl (fun _ => 0))), (q4, .inl (Ar 0, 1200, .inl (fun _ => 0)))]) H := hP
  have hD : va_D (x_A h0 s.heap.size) ((h0, .inr (9, [.ref q1, .ref q2, .ref q3, .null, .int 0, .int 0, .null, .null, .int 0, .null, .null, .null, .int 0, .int 0, .null, .int 0, .int 0, .int 0, .int 0, .int 0, .null, .int 0, .int 0, .int 0, .int 0, .int 0])) :: [(q1, .inl (Ar 0, 64, .inl (fun _ => 0))), (q2, .inl (Ar 0, 8, .inl (fun _ => 0))), (q3, .inl (Ar 0, 240, .inl (fun _ => 0))), (q4, .inl (Ar 0, 1200, .inl (fun _ => 0)))]) := hD
  refine x_putF (v := .ref q4) hx hb hts hown hin hKK hP hD hS xf_m_19 rfl rfl (Nat.le_of_ble_eq_true rfl) d_m_init_35 (fun H locs hP hD hS => ?_)
  have hP : va_P D vwCl ((h0, .inr (9, [.ref q1, .ref q2, .ref q3, .ref q4, .int 0, .int 0, .null, .null, .int 0, .null, .null, .null, .int 0, .int 0, .null, .int 0, .int 0, .int 0, .int 0, .int 0, .null, .int 0, .int 0, .int 0, .int 0, .int 0])) :: [(q1, .inl (Ar 0, 64, .inl (fun _ => 0))), (q2, .inl (Ar 0, 8, .inl (fun _ => 0))), (q3, .inl (Ar 0, 240, .inl (fun _ => 0))), (q4, .inl (Ar 0, 1200, .inl (fun _ => 0)))]) H := hP
  have hD : va_D (x_A h0 s.heap.size) ((h0, .inr (9, [.ref q1, .ref q2, .ref q3, .ref q4, .int 0, .int 0, .null, .null, .int 0, .null, .null, .null, .int 0, .int 0, .null, .int 0, .int 0, .int 0, .int 0, .int 0, .null, .int 0, .int 0, .int 0, .int 0, .int 0])) :: [(q1, .inl (Ar 0, 64, .inl (fun _ => 0))), (q2, .inl (Ar 0, 8, .inl (fun _ => 0))), (q3, .inl (Ar 0, 240, .inl (fun _ => 0))), (q4, .inl (Ar 0, 1200, .inl (fun _ => 0)))]) := hD
  refine lv_aload_n hx hb d_m_init_38 rfl (lv_at hl 0 rfl) ?_
  refine lv_iconst (v := 3) hx hb d_m_init_39 (by decide) ?_
  refine x_newa (atype := .int) (ty := .int) (a0 := .inl (fun _ => 0)) (N := 3) 0 hx hb hts (wt_in (List.mem_of_getElem? (i := 61) (by decide +kernel)) rfl) rfl rfl hKK hP hD hS hA (x_hai _) (by decide) (by decide) (Nat.le_of_ble_eq_true rfl) (by omega) (by omega) d_m_init_40 (fun q5 H hP hD hS => ?_)
  have hP : va_P D vwCl ((h0, .inr (9, [.ref q1, .ref q2, .ref q3, .ref q4, .int 0, .int 0, .null, .null, .int 0, .null, .null, .null, .int 0, .int 0, .null, .int 0, .int 0, .int 0, .int 0, .int 0, .null, .int 0, .int 0, .int 0, .int 0, .int 0])) :: [(q1, .inl (Ar 0, 64, .inl (fun _ => 0))), (q2, .inl (Ar 0, 8, .inl (fun _ => 0))), (q3, .inl (Ar 0, 240, .inl (fun _ => 0))), (q4, .inl (Ar 0, 1200, .inl (fun _ => 0))), (q5, .inl (Ar 0, 3, .inl (fun _ => 0)))]) H := hP
  have hD : va_D (x_A h0 s.heap.size) ((h0, .inr (9, [.ref q1, .ref q2, .ref q3, .ref q4, .int 0, .int 0, .null, .null, .int 0, .null, .null, .null, .int 0, .int 0, .null, .int 0, .int 0, .int 0, .int 0, .int 0, .null, .int 0, .int 0, .int 0, .int 0, .int 0])) :: [(q1, .inl (Ar 0, 64, .inl (fun _ => 0))), (q2, .inl (Ar 0, 8, .inl (fun _ => 0))), (q3, .inl (Ar 0, 240, .inl (fun _ => 0))), (q4, .inl (Ar 0, 1200, .inl (fun _ => 0))), (q5, .inl (Ar 0, 3, .inl (fun _ => 0)))]) := hD
  refine x_putF (v := .ref q5) hx hb hts hown hin hKK hP hD hS xf_m_22 rfl rfl (Nat.le_of_ble_eq_true rfl) d_m_init_42 (fun H locs hP hD hS => ?_)
  have hP : va_P D vwCl ((h0, .inr (9, [.ref q1, .ref q2, .ref q3, .ref q4, .int 0, .int 0, .ref q5, .null, .int 0, .null, .null, .null, .int 0, .int 0, .null, .int 0, .int 0, .int 0, .int 0, .int 0, .null, .int 0, .int 0, .int 0, .int 0, .int 0])) :: [(q1, .inl (Ar 0, 64, .inl (fun _ => 0))), (q2, .inl (Ar 0, 8, .inl (fun _ => 0))), (q3, .inl (Ar 0, 240, .inl (fun _ => 0))), (q4, .inl (Ar 0, 1200, .inl (fun _ => 0))), (q5, .inl (Ar 0, 3, .inl (fun _ => 0)))]) H := hP
  have hD : va_D (x_A h0 s.heap.size) ((h0, .inr (9, [.ref q1, .ref q2, .ref q3, .ref q4, .int 0, .int 0, .ref q5, .null, .int 0, .null, .null, .null, .int 0, .int 0, .null, .int 0, .int 0, .int 0, .int 0, .int 0, .null, .int 0, .int 0, .int 0, .int 0, .int 0])) :: [(q1, .inl (Ar 0, 64, .inl (fun _ => 0))), (q2, .inl (Ar 0, 8, .inl (fun _ => 0))), (q3, .inl (Ar 0, 240, .inl (fun _ => 0))), (q4, .inl (Ar 0, 1200, .inl (fun _ => 0))), (q5, .inl (Ar 0, 3, .inl (fun _ => 0)))]) := hD
  refine lv_aload_n hx hb d_m_init_45 rfl (lv_at hl 0 rfl) ?_
  refine lv_iconst (v := 3) hx hb d_m_init_46 (by decide) ?_
  refine x_newa (atype := .int) (ty := .int) (a0 := .inl (fun _ => 0)) (N := 3) 0 hx hb hts (wt_in (List.mem_of_getElem? (i := 61) (by decide +kernel)) rfl) rfl rfl hKK hP hD hS hA (x_hai _) (by decide) (by decide) (Nat.le_of_ble_eq_true rfl) (by omega) (by omega) d_m_init_47 (fun q6 H hP hD hS => ?_)
  have hP : va_P D vwCl ((h0, .inr (9, [.ref q1, .ref q2, .ref q3, .ref q4, .int 0, .int 0, .ref q5, .null, .int 0, .null, .null, .null, .int 0, .int 0, .null, .int 0, .int 0, .int 0, .int 0, .int 0, .null, .int 0, .int 0, .int 0, .int 0, .int 0])) :: [(q1, .inl (Ar 0, 64, .inl (fun _ => 0))), (q2, .inl (Ar 0, 8, .inl (fun _ => 0))), (q3, .inl (Ar 0, 240, .inl (fun _ => 0))), (q4, .inl (Ar 0, 1200, .inl (fun _ => 0))), (q5, .inl (Ar 0, 3, .inl (fun _ => 0))), (q6, .inl (Ar 0, 3, .inl (fun _ => 0)))]) H := hP
  have hD : va_D (x_A h0 s.heap.size) ((h0, .inr (9, [.ref q1, .ref q2, .ref q3, .ref q4, .int 0, .int 0, .ref q5, .null, .int 0, .null, .null, .null, .int 0, .int 0, .null, .int 0, .int 0, .int 0, .int 0, .int 0, .null, .int 0, .int 0, .int 0, .int 0, .int 0])) :: [(q1, .inl (Ar 0, 64, .inl (fun _ => 0))), (q2, .inl (Ar 0, 8, .inl (fun _ => 0))), (q3, .inl (Ar 0, 240, .inl (fun _ => 0))), (q4, .inl (Ar 0, 1200, .inl (fun _ => 0))), (q5, .inl (Ar 0, 3, .inl (fun _ => 0))), (q6, .inl (Ar 0, 3, .inl (fun _ => 0)))]) := hD
  refine x_putF (v := .ref q6) hx hb hts hown hin hKK hP hD hS xf_m_25 rfl rfl (Nat.le_of_ble_eq_true rfl) d_m_init_49 (fun H locs hP hD hS => ?_)
  have hP : va_P D vwCl ((h0, .inr (9, [.ref q1, .ref q2, .ref q3, .ref q4, .int 0, .int 0, .ref q5, .ref q6, .int 0, .null, .null, .null, .int 0, .int 0, .null, .int 0, .int 0, .int 0, .int 0, .int 0, .null, .int 0, .int 0, .int 0, .int 0, .int 0])) :: [(q1, .inl (Ar 0, 64, .inl (fun _ => 0))), (q2, .inl (Ar 0, 8, .inl (fun _ => 0))), (q3, .inl (Ar 0, 240, .inl (fun _ => 0))), (q4, .inl (Ar 0, 1200, .inl (fun _ => 0))), (q5, .inl (Ar 0, 3, .inl (fun _ => 0))), (q6, .inl (Ar 0, 3, .inl (fun _ => 0)))]) H := hP
  have hD : va_D (x_A h0 s.heap.size) ((h0, .inr (9, [.ref q1, .ref q2, .ref q3, .ref q4, .int 0, .int 0, .ref q5, .ref q6, .int 0, .null, .null, .null, .int 0, .int 0, .null, .int 0, .int 0, .int 0, .int 0, .int 0, .null, .int 0, .int 0, .int 0, .int 0, .int 0])) :: [(q1, .inl (Ar 0, 64, .inl (fun _ => 0))), (q2, .inl (Ar 0, 8, .inl (fun _ => 0))), (q3, .inl (Ar 0, 240, .inl (fun _ => 0))), (q4, .inl (Ar 0, 1200, .inl (fun _ => 0))), (q5, .inl (Ar 0, 3, .inl (fun _ => 0))), (q6, .inl (Ar 0, 3, .inl (fun _ => 0)))]) := hD
  refine lv_aload_n hx hb d_m_init_52 rfl (lv_at hl 0 rfl) ?_
  refine lv_bipush (v := 60) hx hb d_m_init_53 (by decide) ?_
  refine x_newa (atype := .int) (ty := .int) (a0 := .inl (fun _ => 0)) (N := 60) 0 hx hb hts (wt_in (List.mem_of_getElem? (i := 61) (by decide +kernel)) rfl) rfl rfl hKK hP hD hS hA (x_hai _) (by decide) (by decide) (Nat.le_of_ble_eq_true rfl) (by omega) (by omega) d_m_init_55 (fun q7 H hP hD hS => ?_)
  have hP : va_P D vwCl ((h0, .inr (9, [.ref q1, .ref q2, .ref q3, .ref q4, .int 0, .int 0, .ref q5, .ref q6, .int 0, .null, .null, .null, .int 0, .int 0, .null, .int 0, .int 0, .int 0, .int 0, .int 0, .null, .int 0, .int 0, .int 0, .int 0, .int 0])) :: [(q1, .inl (Ar 0, 64, .inl (fun _ => 0))), (q2, .inl (Ar 0, 8, .inl (fun _ => 0))), (q3, .inl (Ar 0, 240, .inl (fun _ => 0))), (q4, .inl (Ar 0, 1200, .inl (fun _ => 0))), (q5, .inl (Ar 0, 3, .inl (fun _ => 0))), (q6, .inl (Ar 0, 3, .inl (fun _ => 0))), (q7, .inl (Ar 0, 60, .inl (fun _ => 0)))]) H := hP
  have hD : va_D (x_A h0 s.heap.size) ((h0, .inr (9, [.ref q1, .ref q2, .ref q3, .ref q4, .int 0, .int 0, .ref q5, .ref q6, .int 0, .null, .null, .null, .int 0, .int 0, .null, .int 0, .int 0, .int 0, .int 0, .int 0, .null, .int 0, .int 0, .int 0, .int 0, .int 0])) :: [(q1, .inl (Ar 0, 64, .inl (fun _ => 0))), (q2, .inl (Ar 0, 8, .inl (fun _ => 0))), (q3, .inl (Ar 0, 240, .inl (fun _ => 0))), (q4, .inl (Ar 0, 1200, .inl (fun _ => 0))), (q5, .inl (Ar 0, 3, .inl (fun _ => 0))), (q6, .inl (Ar 0, 3, .inl (fun _ => 0))), (q7, .inl (Ar 0, 60, .inl (fun _ => 0)))]) := hD
  refine x_putF (v := .ref q7) hx hb hts hown hin hKK hP hD hS xf_m_28 rfl rfl (Nat.le_of_ble_eq_true rfl) d_m_init_57 (fun H locs hP hD hS => ?_)
  have hP : va_P D vwCl ((h0, .inr (9, [.ref q1, .ref q2, .ref q3, .ref q4, .int 0, .int 0, .ref q5, .ref q6, .int 0, .ref q7, .null, .null, .int 0, .int 0, .null, .int 0, .int 0, .int 0, .int 0, .int 0, .null, .int 0, .int 0, .int 0, .int 0, .int 0])) :: [(q1, .inl (Ar 0, 64, .inl (fun _ => 0))), (q2, .inl (Ar 0, 8, .inl (fun _ => 0))), (q3, .inl (Ar 0, 240, .inl (fun _ => 0))), (q4, .inl (Ar 0, 1200, .inl (fun _ => 0))), (q5, .inl (Ar 0, 3, .inl (fun _ => 0))), (q6, .inl (Ar 0, 3, .inl (fun _ => 0))), (q7, .inl (Ar 0, 60, .inl (fun _ => 0)))]) H := hP
  have hD : va_D (x_A h0 s.heap.size) ((h0, .inr (9, [.ref q1, .ref q2, .ref q3, .ref q4, .int 0, .int 0, .ref q5, .ref q6, .int 0, .ref q7, .null, .null, .int 0, .int 0, .null, .int 0, .int 0, .int 0, .int 0, .int 0, .null, .int 0, .int 0, .int 0, .int 0, .int 0])) :: [(q1, .inl (Ar 0, 64, .inl (fun _ => 0))), (q2, .inl (Ar 0, 8, .inl (fun _ => 0))), (q3, .inl (Ar 0, 240, .inl (fun _ => 0))), (q4, .inl (Ar 0, 1200, .inl (fun _ => 0))), (q5, .inl (Ar 0, 3, .inl (fun _ => 0))), (q6, .inl (Ar 0, 3, .inl (fun _ => 0))), (q7, .inl (Ar 0, 60, .inl (fun _ => 0)))]) := hD
  refine lv_aload_n hx hb d_m_init_60 rfl (lv_at hl 0 rfl) ?_
  refine lv_bipush (v := 60) hx hb d_m_init_61 (by decide) ?_
  refine x_newa (atype := .int) (ty := .int) (a0 := .inl (fun _ => 0)) (N := 60) 0 hx hb hts (wt_in (List.mem_of_getElem? (i := 61) (by decide +kernel)) rfl) rfl rfl hKK hP hD hS hA (x_hai _) (by decide) (by decide) (Nat.le_of_ble_eq_true rfl) (by omega) (by omega) d_m_init_63 (fun q8 H hP hD hS => ?_)
  have hP : va_P D vwCl ((h0, .inr (9, [.ref q1, .ref q2, .ref q3, .ref q4, .int 0, .int 0, .ref q5, .ref q6, .int 0, .ref q7, .null, .null, .int 0, .int 0, .null, .int 0, .int 0, .int 0, .int 0, .int 0, .null, .int 0, .int 0, .int 0, .int 0, .int 0])) :: [(q1, .inl (Ar 0, 64, .inl (fun _ => 0))), (q2, .inl (Ar 0, 8, .inl (fun _ => 0))), (q3, .inl (Ar 0, 240, .inl (fun _ => 0))), (q4, .inl (Ar 0, 1200, .inl (fun _ => 0))), (q5, .inl (Ar 0, 3, .inl (fun _ => 0))), (q6, .inl (Ar 0, 3, .inl (fun _ => 0))), (q7, .inl (Ar 0, 60, .inl (fun _ => 0))), (q8, .inl (Ar 0, 60, .inl (fun _ => 0)))]) H := hP
  have hD : va_D (x_A h0 s.heap.size) ((h0, .inr (9, [.ref q1, .ref q2, .ref q3, .ref q4, .int 0, .int 0, .ref q5, .ref q6, .int 0, .ref q7, .null, .null, .int 0, .int 0, .null, .int 0, .int 0, .int 0, .int 0, .int 0, .null, .int 0, .int 0, .int 0, .int 0, .int 0])) :: [(q1, .inl (Ar 0, 64, .inl (fun _ => 0))), (q2, .inl (Ar 0, 8, .inl (fun _ => 0))), (q3, .inl (Ar 0, 240, .inl (fun _ => 0))), (q4, .inl (Ar 0, 1200, .inl (fun _ => 0))), (q5, .inl (Ar 0, 3, .inl (fun _ => 0))), (q6, .inl (Ar 0, 3, .inl (fun _ => 0))), (q7, .inl (Ar 0, 60, .inl (fun _ => 0))), (q8, .inl (Ar 0, 60, .inl (fun _ => 0)))]) := hD
  refine x_putF (v := .ref q8) hx hb hts hown hin hKK hP hD hS xf_m_31 rfl rfl (Nat.le_of_ble_eq_true rfl) d_m_init_65 (fun H locs hP hD hS => ?_)
  have hP : va_P D vwCl ((h0, .inr (9, [.ref q1, .ref q2, .ref q3, .ref q4, .int 0, .int 0, .ref q5, .ref q6, .int 0, .ref q7, .ref q8, .null, .int 0, .int 0, .null, .int 0, .int 0, .int 0, .int 0, .int 0, .null, .int 0, .int 0, .int 0, .int 0, .int 0])) :: [(q1, .inl (Ar 0, 64, .inl (fun _ => 0))), (q2, .inl (Ar 0, 8, .inl (fun _ => 0))), (q3, .inl (Ar 0, 240, .inl (fun _ => 0))), (q4, .inl (Ar 0, 1200, .inl (fun _ => 0))), (q5, .inl (Ar 0, 3, .inl (fun _ => 0))), (q6, .inl (Ar 0, 3, .inl (fun _ => 0))), (q7, .inl (Ar 0, 60, .inl (fun _ => 0))), (q8, .inl (Ar 0, 60, .inl (fun _ => 0)))]) H := hP
  have hD : va_D (x_A h0 s.heap.size) ((h0, .inr (9, [.ref q1, .ref q2, .ref q3, .ref q4, .int 0, .int 0, .ref q5, .ref q6, .int 0, .ref q7, .ref q8, .null, .int 0, .int 0, .null, .int 0, .int 0, .int 0, .int 0, .int 0, .null, .int 0, .int 0, .int 0, .int 0, .int 0])) :: [(q1, .inl (Ar 0, 64, .inl (fun _ => 0))), (q2, .inl (Ar 0, 8, .inl (fun _ => 0))), (q3, .inl (Ar 0, 240, .inl (fun _ => 0))), (q4, .inl (Ar 0, 1200, .inl (fun _ => 0))), (q5, .inl (Ar 0, 3, .inl (fun _ => 0))), (q6, .inl (Ar 0, 3, .inl (fun _ => 0))), (q7, .inl (Ar 0, 60, .inl (fun _ => 0))), (q8, .inl (Ar 0, 60, .inl (fun _ => 0)))]) := hD
  refine lv_aload_n hx hb d_m_init_68 rfl (lv_at hl 0 rfl) ?_
  refine lv_bipush (v := 60) hx hb d_m_init_69 (by decide) ?_
  refine x_newa (atype := .boolean) (ty := .boolean) (a0 := .inl (fun _ => 0)) (N := 60) 1 hx hb hts (wt_in (List.mem_of_getElem? (i := 190) (by decide +kernel)) rfl) rfl rfl hKK hP hD hS hA (x_haz _) (by decide) (by decide) (Nat.le_of_ble_eq_true rfl) (by omega) (by omega) d_m_init_71 (fun q9 H hP hD hS => ?_)
  have hP : va_P D vwCl ((h0, .inr (9, [.ref q1, .ref q2, .ref q3, .ref q4, .int 0, .int 0, .ref q5, .ref q6, .int 0, .ref q7, .ref q8, .null, .int 0, .int 0, .null, .int 0, .int 0, .int 0, .int 0, .int 0, .null, .int 0, .int 0, .int 0, .int 0, .int 0])) :: [(q1, .inl (Ar 0, 64, .inl (fun _ => 0))), (q2, .inl (Ar 0, 8, .inl (fun _ => 0))), (q3, .inl (Ar 0, 240, .inl (fun _ => 0))), (q4, .inl (Ar 0, 1200, .inl (fun _ => 0))), (q5, .inl (Ar 0, 3, .inl (fun _ => 0))), (q6, .inl (Ar 0, 3, .inl (fun _ => 0))), (q7, .inl (Ar 0, 60, .inl (fun _ => 0))), (q8, .inl (Ar 0, 60, .inl (fun _ => 0))), (q9, .inl (Ar 1, 60, .inl (fun _ => 0)))]) H := hP
  have hD : va_D (x_A h0 s.heap.size) ((h0, .inr (9, [.ref q1, .ref q2, .ref q3, .ref q4, .int 0, .int 0, .ref q5, .ref q6, .int 0, .ref q7, .ref q8, .null, .int 0, .int 0, .null, .int 0, .int 0, .int 0, .int 0, .int 0, .null, .int 0, .int 0, .int 0, .int 0, .int 0])) :: [(q1, .inl (Ar 0, 64, .inl (fun _ => 0))), (q2, .inl (Ar 0, 8, .inl (fun _ => 0))), (q3, .inl (Ar 0, 240, .inl (fun _ => 0))), (q4, .inl (Ar 0, 1200, .inl (fun _ => 0))), (q5, .inl (Ar 0, 3, .inl (fun _ => 0))), (q6, .inl (Ar 0, 3, .inl (fun _ => 0))), (q7, .inl (Ar 0, 60, .inl (fun _ => 0))), (q8, .inl (Ar 0, 60, .inl (fun _ => 0))), (q9, .inl (Ar 1, 60, .inl (fun _ => 0)))]) := hD
  refine x_putF (v := .ref q9) hx hb hts hown hin hKK hP hD hS xf_m_34 rfl rfl (Nat.le_of_ble_eq_true rfl) d_m_init_73 (fun H locs hP hD hS => ?_)
  have hP : va_P D vwCl ((h0, .inr (9, [.ref q1, .ref q2, .ref q3, .ref q4, .int 0, .int 0, .ref q5, .ref q6, .int 0, .ref q7, .ref q8, .ref q9, .int 0, .int 0, .null, .int 0, .int 0, .int 0, .int 0, .int 0, .null, .int 0, .int 0, .int 0, .int 0, .int 0])) :: [(q1, .inl (Ar 0, 64, .inl (fun _ => 0))), (q2, .inl (Ar 0, 8, .inl (fun _ => 0))), (q3, .inl (Ar 0, 240, .inl (fun _ => 0))), (q4, .inl (Ar 0, 1200, .inl (fun _ => 0))), (q5, .inl (Ar 0, 3, .inl (fun _ => 0))), (q6, .inl (Ar 0, 3, .inl (fun _ => 0))), (q7, .inl (Ar 0, 60, .inl (fun _ => 0))), (q8, .inl (Ar 0, 60, .inl (fun _ => 0))), (q9, .inl (Ar 1, 60, .inl (fun _ => 0)))]) H := hP
  have hD : va_D (x_A h0 s.heap.size) ((h0, .inr (9, [.ref q1, .ref q2, .ref q3, .ref q4, .int 0, .int 0, .ref q5, .ref q6, .int 0, .ref q7, .ref q8, .ref q9, .int 0, .int 0, .null, .int 0, .int 0, .int 0, .int 0, .int 0, .null, .int 0, .int 0, .int 0, .int 0, .int 0])) :: [(q1, .inl (Ar 0, 64, .inl (fun _ => 0))), (q2, .inl (Ar 0, 8, .inl (fun _ => 0))), (q3, .inl (Ar 0, 240, .inl (fun _ => 0))), (q4, .inl (Ar 0, 1200, .inl (fun _ => 0))), (q5, .inl (Ar 0, 3, .inl (fun _ => 0))), (q6, .inl (Ar 0, 3, .inl (fun _ => 0))), (q7, .inl (Ar 0, 60, .inl (fun _ => 0))), (q8, .inl (Ar 0, 60, .inl (fun _ => 0))), (q9, .inl (Ar 1, 60, .inl (fun _ => 0)))]) := hD
  refine lv_aload_n hx hb d_m_init_76 rfl (lv_at hl 0 rfl) ?_
  refine lv_bipush (v := 24) hx hb d_m_init_77 (by decide) ?_
  refine x_newa (atype := .int) (ty := .int) (a0 := .inl (fun _ => 0)) (N := 24) 0 hx hb hts (wt_in (List.mem_of_getElem? (i := 61) (by decide +kernel)) rfl) rfl rfl hKK hP hD hS hA (x_hai _) (by decide) (by decide) (Nat.le_of_ble_eq_true rfl) (by omega) (by omega) d_m_init_79 (fun q10 H hP hD hS => ?_)
  have hP : va_P D vwCl ((h0, .inr (9, [.ref q1, .ref q2, .ref q3, .ref q4, .int 0, .int 0, .ref q5, .ref q6, .int 0, .ref q7, .ref q8, .ref q9, .int 0, .int 0, .null, .int 0, .int 0, .int 0, .int 0, .int 0, .null, .int 0, .int 0, .int 0, .int 0, .int 0])) :: [(q1, .inl (Ar 0, 64, .inl (fun _ => 0))), (q2, .inl (Ar 0, 8, .inl (fun _ => 0))), (q3, .inl (Ar 0, 240, .inl (fun _ => 0))), (q4, .inl (Ar 0, 1200, .inl (fun _ => 0))), (q5, .inl (Ar 0, 3, .inl (fun _ => 0))), (q6, .inl (Ar 0, 3, .inl (fun _ => 0))), (q7, .inl (Ar 0, 60, .inl (fun _ => 0))), (q8, .inl (Ar 0, 60, .inl (fun _ => 0))), (q9, .inl (Ar 1, 60, .inl (fun _ => 0))), (q10, .inl (Ar 0, 24, .inl (fun _ => 0)))]) H := hP
  have hD : va_D (x_A h0 s.heap.size) ((h0, .inr (9, [.ref q1, .ref q2, .ref q3, .ref q4, .int 0, .int 0, .ref q5, .ref q6, .int 0, .ref q7, .ref q8, .ref q9, .int 0, .int 0, .null, .int 0, .int 0, .int 0, .int 0, .int 0, .null, .int 0, .int 0, .int 0, .int 0, .int 0])) :: [(q1, .inl (Ar 0, 64, .inl (fun _ => 0))), (q2, .inl (Ar 0, 8, .inl (fun _ => 0))), (q3, .inl (Ar 0, 240, .inl (fun _ => 0))), (q4, .inl (Ar 0, 1200, .inl (fun _ => 0))), (q5, .inl (Ar 0, 3, .inl (fun _ => 0))), (q6, .inl (Ar 0, 3, .inl (fun _ => 0))), (q7, .inl (Ar 0, 60, .inl (fun _ => 0))), (q8, .inl (Ar 0, 60, .inl (fun _ => 0))), (q9, .inl (Ar 1, 60, .inl (fun _ => 0))), (q10, .inl (Ar 0, 24, .inl (fun _ => 0)))]) := hD
  refine x_putF (v := .ref q10) hx hb hts hown hin hKK hP hD hS xf_m_38 rfl rfl (Nat.le_of_ble_eq_true rfl) d_m_init_81 (fun H locs hP hD hS => ?_)
  have hP : va_P D vwCl ((h0, .inr (9, [.ref q1, .ref q2, .ref q3, .ref q4, .int 0, .int 0, .ref q5, .ref q6, .int 0, .ref q7, .ref q8, .ref q9, .int 0, .int 0, .ref q10, .int 0, .int 0, .int 0, .int 0, .int 0, .null, .int 0, .int 0, .int 0, .int 0, .int 0])) :: [(q1, .inl (Ar 0, 64, .inl (fun _ => 0))), (q2, .inl (Ar 0, 8, .inl (fun _ => 0))), (q3, .inl (Ar 0, 240, .inl (fun _ => 0))), (q4, .inl (Ar 0, 1200, .inl (fun _ => 0))), (q5, .inl (Ar 0, 3, .inl (fun _ => 0))), (q6, .inl (Ar 0, 3, .inl (fun _ => 0))), (q7, .inl (Ar 0, 60, .inl (fun _ => 0))), (q8, .inl (Ar 0, 60, .inl (fun _ => 0))), (q9, .inl (Ar 1, 60, .inl (fun _ => 0))), (q10, .inl (Ar 0, 24, .inl (fun _ => 0)))]) H := hP
  have hD : va_D (x_A h0 s.heap.size) ((h0, .inr (9, [.ref q1, .ref q2, .ref q3, .ref q4, .int 0, .int 0, .ref q5, .ref q6, .int 0, .ref q7, .ref q8, .ref q9, .int 0, .int 0, .ref q10, .int 0, .int 0, .int 0, .int 0, .int 0, .null, .int 0, .int 0, .int 0, .int 0, .int 0])) :: [(q1, .inl (Ar 0, 64, .inl (fun _ => 0))), (q2, .inl (Ar 0, 8, .inl (fun _ => 0))), (q3, .inl (Ar 0, 240, .inl (fun _ => 0))), (q4, .inl (Ar 0, 1200, .inl (fun _ => 0))), (q5, .inl (Ar 0, 3, .inl (fun _ => 0))), (q6, .inl (Ar 0, 3, .inl (fun _ => 0))), (q7, .inl (Ar 0, 60, .inl (fun _ => 0))), (q8, .inl (Ar 0, 60, .inl (fun _ => 0))), (q9, .inl (Ar 1, 60, .inl (fun _ => 0))), (q10, .inl (Ar 0, 24, .inl (fun _ => 0)))]) := hD
  refine lv_aload_n hx hb d_m_init_84 rfl (lv_at hl 0 rfl) ?_
  refine lv_bipush (v := 10) hx hb d_m_init_85 (by decide) ?_
  refine x_newa (atype := .int) (ty := .int) (a0 := .inl (fun _ => 0)) (N := 10) 0 hx hb hts (wt_in (List.mem_of_getElem? (i := 61) (by decide +kernel)) rfl) rfl rfl hKK hP hD hS hA (x_hai _) (by decide) (by decide) (Nat.le_of_ble_eq_true rfl) (by omega) (by omega) d_m_init_87 (fun q11 H hP hD hS => ?_)
  have hP : va_P D vwCl ((h0, .inr (9, [.ref q1, .ref q2, .ref q3, .ref q4, .int 0, .int 0, .ref q5, .ref q6, .int 0, .ref q7, .ref q8, .ref q9, .int 0, .int 0, .ref q10, .int 0, .int 0, .int 0, .int 0, .int 0, .null, .int 0, .int 0, .int 0, .int 0, .int 0])) :: [(q1, .inl (Ar 0, 64, .inl (fun _ => 0))), (q2, .inl (Ar 0, 8, .inl (fun _ => 0))), (q3, .inl (Ar 0, 240, .inl (fun _ => 0))), (q4, .inl (Ar 0, 1200, .inl (fun _ => 0))), (q5, .inl (Ar 0, 3, .inl (fun _ => 0))), (q6, .inl (Ar 0, 3, .inl (fun _ => 0))), (q7, .inl (Ar 0, 60, .inl (fun _ => 0))), (q8, .inl (Ar 0, 60, .inl (fun _ => 0))), (q9, .inl (Ar 1, 60, .inl (fun _ => 0))), (q10, .inl (Ar 0, 24, .inl (fun _ => 0))), (q11, .inl (Ar 0, 10, .inl (fun _ => 0)))]) H := hP
  have hD : va_D (x_A h0 s.heap.size) ((h0, .inr (9, [.ref q1, .ref q2, .ref q3, .ref q4, .int 0, .int 0, .ref q5, .ref q6, .int 0, .ref q7, .ref q8, .ref q9, .int 0, .int 0, .ref q10, .int 0, .int 0, .int 0, .int 0, .int 0, .null, .int 0, .int 0, .int 0, .int 0, .int 0])) :: [(q1, .inl (Ar 0, 64, .inl (fun _ => 0))), (q2, .inl (Ar 0, 8, .inl (fun _ => 0))), (q3, .inl (Ar 0, 240, .inl (fun _ => 0))), (q4, .inl (Ar 0, 1200, .inl (fun _ => 0))), (q5, .inl (Ar 0, 3, .inl (fun _ => 0))), (q6, .inl (Ar 0, 3, .inl (fun _ => 0))), (q7, .inl (Ar 0, 60, .inl (fun _ => 0))), (q8, .inl (Ar 0, 60, .inl (fun _ => 0))), (q9, .inl (Ar 1, 60, .inl (fun _ => 0))), (q10, .inl (Ar 0, 24, .inl (fun _ => 0))), (q11, .inl (Ar 0, 10, .inl (fun _ => 0)))]) := hD
  refine x_putF (v := .ref q11) hx hb hts hown hin hKK hP hD hS xf_m_41 rfl rfl (Nat.le_of_ble_eq_true rfl) d_m_init_89 (fun H locs hP hD hS => ?_)
  have hP : va_P D vwCl ((h0, .inr (9, [.ref q1, .ref q2, .ref q3, .ref q4, .int 0, .int 0, .ref q5, .ref q6, .int 0, .ref q7, .ref q8, .ref q9, .int 0, .int 0, .ref q10, .int 0, .int 0, .int 0, .int 0, .int 0, .ref q11, .int 0, .int 0, .int 0, .int 0, .int 0])) :: [(q1, .inl (Ar 0, 64, .inl (fun _ => 0))), (q2, .inl (Ar 0, 8, .inl (fun _ => 0))), (q3, .inl (Ar 0, 240, .inl (fun _ => 0))), (q4, .inl (Ar 0, 1200, .inl (fun _ => 0))), (q5, .inl (Ar 0, 3, .inl (fun _ => 0))), (q6, .inl (Ar 0, 3, .inl (fun _ => 0))), (q7, .inl (Ar 0, 60, .inl (fun _ => 0))), (q8, .inl (Ar 0, 60, .inl (fun _ => 0))), (q9, .inl (Ar 1, 60, .inl (fun _ => 0))), (q10, .inl (Ar 0, 24, .inl (fun _ => 0))), (q11, .inl (Ar 0, 10, .inl (fun _ => 0)))]) H := hP
  have hD : va_D (x_A h0 s.heap.size) ((h0, .inr (9, [.ref q1, .ref q2, .ref q3, .ref q4, .int 0, .int 0, .ref q5, .ref q6, .int 0, .ref q7, .ref q8, .ref q9, .int 0, .int 0, .ref q10, .int 0, .int 0, .int 0, .int 0, .int 0, .ref q11, .int 0, .int 0, .int 0, .int 0, .int 0])) :: [(q1, .inl (Ar 0, 64, .inl (fun _ => 0))), (q2, .inl (Ar 0, 8, .inl (fun _ => 0))), (q3, .inl (Ar 0, 240, .inl (fun _ => 0))), (q4, .inl (Ar 0, 1200, .inl (fun _ => 0))), (q5, .inl (Ar 0, 3, .inl (fun _ => 0))), (q6, .inl (Ar 0, 3, .inl (fun _ => 0))), (q7, .inl (Ar 0, 60, .inl (fun _ => 0))), (q8, .inl (Ar 0, 60, .inl (fun _ => 0))), (q9, .inl (Ar 1, 60, .inl (fun _ => 0))), (q10, .inl (Ar 0, 24, .inl (fun _ => 0))), (q11, .inl (Ar 0, 10, .inl (fun _ => 0)))]) := hD
  refine lv_iconst (v := 0) hx hb d_m_init_92 (by decide) ?_
  refine lv_istore_n (lv' := [(1, .int 0), (0, .ref h0)]) hx hb d_m_init_93 rfl hl (by decide) rfl (fun ls hl => ?_)
  refine lv_iload_n hx hb d_m_init_94 rfl (lv_at hl 0 rfl) ?_
  refine lv_iconst (v := 3) hx hb d_m_init_95 (by decide) ?_
  refine lv_icmp_ge (tgt := 113) hx hb d_m_init_96 (by decide) (fun h => absurd h (by decide)) (fun _ => ?_)
  refine lv_aload_n hx hb d_m_init_99 rfl (lv_at hl 1 rfl) ?_
  refine x_get hx hb hts hown hKK hP xf_m_25 rfl d_m_init_100 ?_
  refine lv_iload_n hx hb d_m_init_103 rfl (lv_at hl 0 rfl) ?_
  refine lv_bipush (v := 30) hx hb d_m_init_104 (by decide) ?_
  refine va_iast hx hb hKK hP hD hS 6 0 rfl rfl (f_ib_in (show f_ib 0 3 = true by decide)) d_m_init_106 (fun H locs hP hD hS => ?_)
  have hP : va_P D vwCl ((h0, .inr (9, [.ref q1, .ref q2, .ref q3, .ref q4, .int 0, .int 0, .ref q5, .ref q6, .int 0, .ref q7, .ref q8, .ref q9, .int 0, .int 0, .ref q10, .int 0, .int 0, .int 0, .int 0, .int 0, .ref q11, .int 0, .int 0, .int 0, .int 0, .int 0])) :: [(q1, .inl (Ar 0, 64, .inl (fun _ => 0))), (q2, .inl (Ar 0, 8, .inl (fun _ => 0))), (q3, .inl (Ar 0, 240, .inl (fun _ => 0))), (q4, .inl (Ar 0, 1200, .inl (fun _ => 0))), (q5, .inl (Ar 0, 3, .inl (fun _ => 0))), (q6, .inl (Ar 0, 3, .inl (upd (fun _ => 0) (0 : Int32).toNatClampNeg 30))), (q7, .inl (Ar 0, 60, .inl (fun _ => 0))), (q8, .inl (Ar 0, 60, .inl (fun _ => 0))), (q9, .inl (Ar 1, 60, .inl (fun _ => 0))), (q10, .inl (Ar 0, 24, .inl (fun _ => 0))), (q11, .inl (Ar 0, 10, .inl (fun _ => 0)))]) H := hP
  have hD : va_D (x_A h0 s.heap.size) ((h0, .inr (9, [.ref q1, .ref q2, .ref q3, .ref q4, .int 0, .int 0, .ref q5, .ref q6, .int 0, .ref q7, .ref q8, .ref q9, .int 0, .int 0, .ref q10, .int 0, .int 0, .int 0, .int 0, .int 0, .ref q11, .int 0, .int 0, .int 0, .int 0, .int 0])) :: [(q1, .inl (Ar 0, 64, .inl (fun _ => 0))), (q2, .inl (Ar 0, 8, .inl (fun _ => 0))), (q3, .inl (Ar 0, 240, .inl (fun _ => 0))), (q4, .inl (Ar 0, 1200, .inl (fun _ => 0))), (q5, .inl (Ar 0, 3, .inl (fun _ => 0))), (q6, .inl (Ar 0, 3, .inl (upd (fun _ => 0) (0 : Int32).toNatClampNeg 30))), (q7, .inl (Ar 0, 60, .inl (fun _ => 0))), (q8, .inl (Ar 0, 60, .inl (fun _ => 0))), (q9, .inl (Ar 1, 60, .inl (fun _ => 0))), (q10, .inl (Ar 0, 24, .inl (fun _ => 0))), (q11, .inl (Ar 0, 10, .inl (fun _ => 0)))]) := hD
  refine lv_iinc (k := 0) (x := 0) (v := 1) (lv' := [(1, .int 1), (0, .ref h0)]) hx hb d_m_init_107 hl rfl (by decide) (by decide) rfl (fun ls hl => ?_)
  refine lv_goto (tgt := 94) hx hb d_m_init_110 (by decide) ?_
  refine lv_iload_n hx hb d_m_init_94 rfl (lv_at hl 0 rfl) ?_
  refine lv_iconst (v := 3) hx hb d_m_init_95 (by decide) ?_
  refine lv_icmp_ge (tgt := 113) hx hb d_m_init_96 (by decide) (fun h => absurd h (by decide)) (fun _ => ?_)
  refine lv_aload_n hx hb d_m_init_99 rfl (lv_at hl 1 rfl) ?_
  refine x_get hx hb hts hown hKK hP xf_m_25 rfl d_m_init_100 ?_
  refine lv_iload_n hx hb d_m_init_103 rfl (lv_at hl 0 rfl) ?_
  refine lv_bipush (v := 30) hx hb d_m_init_104 (by decide) ?_
  refine va_iast hx hb hKK hP hD hS 6 0 rfl rfl (f_ib_in (show f_ib 1 3 = true by decide)) d_m_init_106 (fun H locs hP hD hS => ?_)
  have hP : va_P D vwCl ((h0, .inr (9, [.ref q1, .ref q2, .ref q3, .ref q4, .int 0, .int 0, .ref q5, .ref q6, .int 0, .ref q7, .ref q8, .ref q9, .int 0, .int 0, .ref q10, .int 0, .int 0, .int 0, .int 0, .int 0, .ref q11, .int 0, .int 0, .int 0, .int 0, .int 0])) :: [(q1, .inl (Ar 0, 64, .inl (fun _ => 0))), (q2, .inl (Ar 0, 8, .inl (fun _ => 0))), (q3, .inl (Ar 0, 240, .inl (fun _ => 0))), (q4, .inl (Ar 0, 1200, .inl (fun _ => 0))), (q5, .inl (Ar 0, 3, .inl (fun _ => 0))), (q6, .inl (Ar 0, 3, .inl (upd (upd (fun _ => 0) (0 : Int32).toNatClampNeg 30) (1 : Int32).toNatClampNeg 30))), (q7, .inl (Ar 0, 60, .inl (fun _ => 0))), (q8, .inl (Ar 0, 60, .inl (fun _ => 0))), (q9, .inl (Ar 1, 60, .inl (fun _ => 0))), (q10, .inl (Ar 0, 24, .inl (fun _ => 0))), (q11, .inl (Ar 0, 10, .inl (fun _ => 0)))]) H := hP
  have hD : va_D (x_A h0 s.heap.size) ((h0, .inr (9, [.ref q1, .ref q2, .ref q3, .ref q4, .int 0, .int 0, .ref q5, .ref q6, .int 0, .ref q7, .ref q8, .ref q9, .int 0, .int 0, .ref q10, .int 0, .int 0, .int 0, .int 0, .int 0, .ref q11, .int 0, .int 0, .int 0, .int 0, .int 0])) :: [(q1, .inl (Ar 0, 64, .inl (fun _ => 0))), (q2, .inl (Ar 0, 8, .inl (fun _ => 0))), (q3, .inl (Ar 0, 240, .inl (fun _ => 0))), (q4, .inl (Ar 0, 1200, .inl (fun _ => 0))), (q5, .inl (Ar 0, 3, .inl (fun _ => 0))), (q6, .inl (Ar 0, 3, .inl (upd (upd (fun _ => 0) (0 : Int32).toNatClampNeg 30) (1 : Int32).toNatClampNeg 30))), (q7, .inl (Ar 0, 60, .inl (fun _ => 0))), (q8, .inl (Ar 0, 60, .inl (fun _ => 0))), (q9, .inl (Ar 1, 60, .inl (fun _ => 0))), (q10, .inl (Ar 0, 24, .inl (fun _ => 0))), (q11, .inl (Ar 0, 10, .inl (fun _ => 0)))]) := hD
  refine lv_iinc (k := 0) (x := 1) (v := 2) (lv' := [(1, .int 2), (0, .ref h0)]) hx hb d_m_init_107 hl rfl (by decide) (by decide) rfl (fun ls hl => ?_)
  refine lv_goto (tgt := 94) hx hb d_m_init_110 (by decide) ?_
  refine lv_iload_n hx hb d_m_init_94 rfl (lv_at hl 0 rfl) ?_
  refine lv_iconst (v := 3) hx hb d_m_init_95 (by decide) ?_
  refine lv_icmp_ge (tgt := 113) hx hb d_m_init_96 (by decide) (fun h => absurd h (by decide)) (fun _ => ?_)
  refine lv_aload_n hx hb d_m_init_99 rfl (lv_at hl 1 rfl) ?_
  refine x_get hx hb hts hown hKK hP xf_m_25 rfl d_m_init_100 ?_
  refine lv_iload_n hx hb d_m_init_103 rfl (lv_at hl 0 rfl) ?_
  refine lv_bipush (v := 30) hx hb d_m_init_104 (by decide) ?_
  refine va_iast hx hb hKK hP hD hS 6 0 rfl rfl (f_ib_in (show f_ib 2 3 = true by decide)) d_m_init_106 (fun H locs hP hD hS => ?_)
  have hP : va_P D vwCl ((h0, .inr (9, [.ref q1, .ref q2, .ref q3, .ref q4, .int 0, .int 0, .ref q5, .ref q6, .int 0, .ref q7, .ref q8, .ref q9, .int 0, .int 0, .ref q10, .int 0, .int 0, .int 0, .int 0, .int 0, .ref q11, .int 0, .int 0, .int 0, .int 0, .int 0])) :: [(q1, .inl (Ar 0, 64, .inl (fun _ => 0))), (q2, .inl (Ar 0, 8, .inl (fun _ => 0))), (q3, .inl (Ar 0, 240, .inl (fun _ => 0))), (q4, .inl (Ar 0, 1200, .inl (fun _ => 0))), (q5, .inl (Ar 0, 3, .inl (fun _ => 0))), (q6, .inl (Ar 0, 3, .inl (upd (upd (upd (fun _ => 0) (0 : Int32).toNatClampNeg 30) (1 : Int32).toNatClampNeg 30) (2 : Int32).toNatClampNeg 30))), (q7, .inl (Ar 0, 60, .inl (fun _ => 0))), (q8, .inl (Ar 0, 60, .inl (fun _ => 0))), (q9, .inl (Ar 1, 60, .inl (fun _ => 0))), (q10, .inl (Ar 0, 24, .inl (fun _ => 0))), (q11, .inl (Ar 0, 10, .inl (fun _ => 0)))]) H := hP
  have hD : va_D (x_A h0 s.heap.size) ((h0, .inr (9, [.ref q1, .ref q2, .ref q3, .ref q4, .int 0, .int 0, .ref q5, .ref q6, .int 0, .ref q7, .ref q8, .ref q9, .int 0, .int 0, .ref q10, .int 0, .int 0, .int 0, .int 0, .int 0, .ref q11, .int 0, .int 0, .int 0, .int 0, .int 0])) :: [(q1, .inl (Ar 0, 64, .inl (fun _ => 0))), (q2, .inl (Ar 0, 8, .inl (fun _ => 0))), (q3, .inl (Ar 0, 240, .inl (fun _ => 0))), (q4, .inl (Ar 0, 1200, .inl (fun _ => 0))), (q5, .inl (Ar 0, 3, .inl (fun _ => 0))), (q6, .inl (Ar 0, 3, .inl (upd (upd (upd (fun _ => 0) (0 : Int32).toNatClampNeg 30) (1 : Int32).toNatClampNeg 30) (2 : Int32).toNatClampNeg 30))), (q7, .inl (Ar 0, 60, .inl (fun _ => 0))), (q8, .inl (Ar 0, 60, .inl (fun _ => 0))), (q9, .inl (Ar 1, 60, .inl (fun _ => 0))), (q10, .inl (Ar 0, 24, .inl (fun _ => 0))), (q11, .inl (Ar 0, 10, .inl (fun _ => 0)))]) := hD
  refine lv_iinc (k := 0) (x := 2) (v := 3) (lv' := [(1, .int 3), (0, .ref h0)]) hx hb d_m_init_107 hl rfl (by decide) (by decide) rfl (fun ls hl => ?_)
  refine lv_goto (tgt := 94) hx hb d_m_init_110 (by decide) ?_
  refine lv_iload_n hx hb d_m_init_94 rfl (lv_at hl 0 rfl) ?_
  refine lv_iconst (v := 3) hx hb d_m_init_95 (by decide) ?_
  refine lv_icmp_ge (tgt := 113) hx hb d_m_init_96 (by decide) (fun _ => ?_) (fun h => absurd (by decide) h)
  obtain ⟨hP, hD⟩ := x_chg (k := 6) (y := (3, .inl (fun _ => 30))) hP hD rfl (x_celli (by decide))
  have hP : va_P D vwCl ((h0, .inr (9, [.ref q1, .ref q2, .ref q3, .ref q4, .int 0, .int 0, .ref q5, .ref q6, .int 0, .ref q7, .ref q8, .ref q9, .int 0, .int 0, .ref q10, .int 0, .int 0, .int 0, .int 0, .int 0, .ref q11, .int 0, .int 0, .int 0, .int 0, .int 0])) :: [(q1, .inl (Ar 0, 64, .inl (fun _ => 0))), (q2, .inl (Ar 0, 8, .inl (fun _ => 0))), (q3, .inl (Ar 0, 240, .inl (fun _ => 0))), (q4, .inl (Ar 0, 1200, .inl (fun _ => 0))), (q5, .inl (Ar 0, 3, .inl (fun _ => 0))), (q6, .inl (Ar 0, 3, .inl (fun _ => 30))), (q7, .inl (Ar 0, 60, .inl (fun _ => 0))), (q8, .inl (Ar 0, 60, .inl (fun _ => 0))), (q9, .inl (Ar 1, 60, .inl (fun _ => 0))), (q10, .inl (Ar 0, 24, .inl (fun _ => 0))), (q11, .inl (Ar 0, 10, .inl (fun _ => 0)))]) H := hP
  have hD : va_D (x_A h0 s.heap.size) ((h0, .inr (9, [.ref q1, .ref q2, .ref q3, .ref q4, .int 0, .int 0, .ref q5, .ref q6, .int 0, .ref q7, .ref q8, .ref q9, .int 0, .int 0, .ref q10, .int 0, .int 0, .int 0, .int 0, .int 0, .ref q11, .int 0, .int 0, .int 0, .int 0, .int 0])) :: [(q1, .inl (Ar 0, 64, .inl (fun _ => 0))), (q2, .inl (Ar 0, 8, .inl (fun _ => 0))), (q3, .inl (Ar 0, 240, .inl (fun _ => 0))), (q4, .inl (Ar 0, 1200, .inl (fun _ => 0))), (q5, .inl (Ar 0, 3, .inl (fun _ => 0))), (q6, .inl (Ar 0, 3, .inl (fun _ => 30))), (q7, .inl (Ar 0, 60, .inl (fun _ => 0))), (q8, .inl (Ar 0, 60, .inl (fun _ => 0))), (q9, .inl (Ar 1, 60, .inl (fun _ => 0))), (q10, .inl (Ar 0, 24, .inl (fun _ => 0))), (q11, .inl (Ar 0, 10, .inl (fun _ => 0)))]) := hD
  exact x_ret (q1, q2, q3, q4, q5, q6, q7, q8, q9, q10, q11) hx hb hr hlk hP hD hS (by omega) (by omega) d_m_init_113

