/-! Belt and BottleReturn -/
theorem xf_be_11 : x_fp "BottleReturn$Belt" 11 2 0 true (.array (.object "BottleReturn$Container")) := ⟨T_be, 3, ty_be, rfl, by decide, in_be, rfl, (wt_in (List.mem_of_getElem? (i := 134) (by decide +kernel)) rfl), tk_be, nm_be, rfl, tk_be 0 (by decide)⟩
theorem xn_be_9 : x_nw "BottleReturn$Belt" 9 3 9 [.null, .null, .int 0, .int 0, .int 0, .int 0, .int 0, .int 0, .int 0] := ⟨"BottleReturn$Container", T_co, ty_co, rfl, in_co, tk_co, (wt_in (List.mem_of_getElem? (i := 68) (by decide +kernel)) rfl), (wt_in (List.mem_of_getElem? (i := 70) (by decide +kernel)) rfl), (wt_in (List.mem_of_getElem? (i := 4) (by decide +kernel)) rfl), by decide⟩
abbrev x_SB : Type := Nat × (Nat → Nat) × (Nat → Nat × Nat × Nat × Nat)
def x_bl (Ar : Nat → ClassId) (g : Nat → Nat) (v : Nat → Nat × Nat × Nat × Nat) : Nat → va_W
  | 0 => []
  | i + 1 => x_bl Ar g v i ++ w_co Ar (g i) (v i)
theorem x_bl_same {Ar : Nat → ClassId} {g g' : Nat → Nat} {v v' : Nat → Nat × Nat × Nat × Nat} : ∀ i : Nat, (∀ j, j < i → g' j = g j ∧ v' j = v j) → x_bl Ar g' v' i = x_bl Ar g v i
  | 0, _ => rfl
  | i + 1, h => by
    show x_bl Ar g' v' i ++ w_co Ar (g' i) (v' i) = x_bl Ar g v i ++ w_co Ar (g i) (v i)
    rw [x_bl_same i (fun j hj => h j (by omega)), (h i (by omega)).1, (h i (by omega)).2]
theorem x_bl_up {Ar : Nat → ClassId} {g : Nat → Nat} {v : Nat → Nat × Nat × Nat × Nat} {i q : Nat} {u : Nat × Nat × Nat × Nat} : x_bl Ar (fun j => if j = i then q else g j) (fun j => if j = i then u else v j) (i + 1) = x_bl Ar g v i ++ w_co Ar q u := by
  have e : x_bl Ar (fun j => if j = i then q else g j) (fun j => if j = i then u else v j) i = x_bl Ar g v i := x_bl_same i (fun j hj => ⟨if_neg (by omega), if_neg (by omega)⟩)
  show x_bl Ar (fun j => if j = i then q else g j) (fun j => if j = i then u else v j) i ++ w_co Ar (if i = i then q else g i) (if i = i then u else v i) = _
  rw [e, if_pos rfl, if_pos rfl]
def x_bf (g : Nat → Nat) (i : Nat) : Nat → Option Nat := fun j => if j < i then some (g j) else none
theorem x_bf_up {g : Nat → Nat} {i q : Nat} : va_up (x_bf g i) i (some q) = x_bf (fun j => if j = i then q else g j) (i + 1) := by
  funext j
  by_cases hj : j = i
  · subst hj
    simp [va_up, x_bf]
  · have : j < i + 1 ↔ j < i := by omega
    simp [va_up, x_bf, hj, this]
def w_be (Ar : Nat → ClassId) (h0 : Nat) (u : x_SB) : va_W := (h0, .inr (2, [.ref u.1, .int 0, .int 0])) :: (u.1, .inl (Ar 3, 16, .inr (.inr (.inr (.inr (fun j => some (u.2.1 j))))))) :: x_bl Ar u.2.1 u.2.2 16
theorem x_i16 : ∀ i, i < 16 → ¬ (nI 16 ≤ nI i) ∧ f_ib (nI i) 16 = true := by decide
def x_bw (Ar : Nat → ClassId) (h0 a : Nat) (g : Nat → Nat) (v : Nat → Nat × Nat × Nat × Nat) (i : Nat) : va_W := (h0, .inr (2, [.ref a, .int 0, .int 0])) :: (a, .inl (Ar 3, 16, .inr (.inr (.inr (.inr (x_bf g i)))))) :: x_bl Ar g v i
set_option maxHeartbeats 4000000 in
set_option maxRecDepth 20000 in
theorem x_bloop {l : Launch} {D : va_G} {Ar : Nat → ClassId} {p : Program} {e : Env} {s : State} {m : MethodId} {args : Array Value} {below : List Frame} {meth : Method} {c : Code} {R : Room} {h0 : Nat} (hRf : R.frames = 3) (hRl : R.locals = 40 * 3) (hRc : R.cells = 81) (hRs : R.slots = 400) (hx : p.tables.exec = Jvm.exec) (hb : c.code = c_be_init) (hr : meth.sig.returnType = none) (hlk : meth.locks = false) (hml : c.maxLocals = 2) (hts : ∀ w ∈ wt, w.before args s = true) (hown : s.vm.findClass "BottleReturn$Belt" = some m.cls) (hK : x_K Ar D s) (a : Nat) :
    ∀ (n i : Nat) (g : Nat → Nat) (v : Nat → Nat × Nat × Nat × Nat) (ls : Array Slot) (H : Heap) (locs : List Loc), i + n = 16 → lv_has ls 2 [(1, .int (nI i)), (0, .ref h0)] → va_P D vwCl (x_bw Ar h0 a g v i) H → va_D (x_A h0 s.heap.size) (x_bw Ar h0 a g v i) → va_S (x_A h0 s.heap.size) s.heap H locs → W p l e R s m args below meth c H locs (1 + 5 * i) (16 + 24 * i) (MQ below (x_Qc D h0 s.heap.size (w_be Ar)) args s 81 400 (x_A h0 s.heap.size)) (F0 m 15 ls []) := by
  have hA : ∀ q : Nat, s.heap.size ≤ q → x_A h0 s.heap.size q := fun q h => Or.inr h
  have hKK := hK.1
  intro n
  induction n with
  | zero =>
    intro i g v ls H locs hi hl hP hD hS
    have : i = 16 := by omega
    subst this
    refine lv_iload_n hx hb d_be_init_15 rfl (lv_at hl 0 rfl) ?_
    refine lv_aload_n hx hb d_be_init_16 rfl (lv_at hl 1 rfl) ?_
    refine x_get hx hb hts hown hKK hP xf_be_11 rfl d_be_init_17 ?_
    refine va_alen hx hb hKK hP 1 3 rfl rfl (v := nI 16) rfl d_be_init_20 ?_
    refine lv_icmp_ge (tgt := 43) hx hb d_be_init_21 (by decide) (fun _ => ?_) (fun h => absurd (by decide) h)
    obtain ⟨hP, hD⟩ := x_chg (k := 1) (y := (16, .inr (.inr (.inr (.inr (fun j => some (g j))))))) hP hD rfl (x_cellq (fun j hj => by simp [x_bf, hj]))
    exact x_ret (a, g, v) hx hb hr hlk hP hD hS (by omega) (by omega) d_be_init_43
  | succ n ih =>
    intro i g v ls H locs hi hl hP hD hS
    have hi16 := x_i16 i (by omega)
    refine lv_iload_n hx hb d_be_init_15 rfl (lv_at hl 0 rfl) ?_
    refine lv_aload_n hx hb d_be_init_16 rfl (lv_at hl 1 rfl) ?_
    refine x_get hx hb hts hown hKK hP xf_be_11 rfl d_be_init_17 ?_
    refine va_alen hx hb hKK hP 1 3 rfl rfl (v := nI 16) rfl d_be_init_20 ?_
    refine lv_icmp_ge (tgt := 43) hx hb d_be_init_21 (by decide) (fun h => absurd h hi16.1) (fun _ => ?_)
    refine lv_aload_n hx hb d_be_init_24 rfl (lv_at hl 1 rfl) ?_
    refine x_get hx hb hts hown hKK hP xf_be_11 rfl d_be_init_25 ?_
    refine lv_iload_n hx hb d_be_init_28 rfl (lv_at hl 0 rfl) ?_
    refine x_new hx hb hts hown hKK hP hD hS hA xn_be_9 (by omega) (by omega) d_be_init_29 (fun q H hP hD hS => ?_)
    refine lv_dup hx hb d_be_init_32 rfl ?_
    refine x_go (ws := x_bw Ar h0 a g v i) (x_runIN (ws := x_bw Ar h0 a g v i) (host := "BottleReturn") (as := []) (rest := [.ref q, .int (nI i), .ref a]) hx hb hml hown hts hK (k_co l D Ar) w_co_init (wt_in (List.mem_of_getElem? (i := 4) (by decide +kernel)) rfl) (List.mem_of_getElem? (i := 71) (by decide +kernel)) (wt_in (List.mem_of_getElem? (i := 72) (by decide +kernel)) rfl) rfl ⟨by decide, by decide, by decide +kernel⟩ ⟨by omega, by omega⟩ hP hl.1 (Nat.le_of_ble_eq_true rfl) d_be_init_33 ⟨by omega, by omega⟩) hP hD hS hA (fun u H locs hP hD hS => ?_)
    refine va_astq hx hb hKK hP hD hS 1 3 ((x_bl Ar g v i).length + 2) 3 (r := ("BottleReturn$Container", T_co, 9)) (vs := [.ref u.1, .ref u.2.2.1, .int 0, .int 0, .int 0, .int 0, .int 0, .int 0, .int 0]) rfl rfl ?_ rfl (f_ib_in hi16.2) d_be_init_36 (fun H locs hP hD hS => ?_)
    · show (x_bl Ar g v i ++ w_co Ar q u)[(x_bl Ar g v i).length]? = _
      rw [List.getElem?_append_right (Nat.le_refl _), Nat.sub_self]
      rfl
    have hP : va_P D vwCl ((h0, .inr (2, [.ref a, .int 0, .int 0])) :: (a, .inl (Ar 3, 16, .inr (.inr (.inr (.inr (va_up (x_bf g i) (nI i).toNatClampNeg (some q))))))) :: (x_bl Ar g v i ++ w_co Ar q u)) H := hP
    have hD : va_D (x_A h0 s.heap.size) ((h0, .inr (2, [.ref a, .int 0, .int 0])) :: (a, .inl (Ar 3, 16, .inr (.inr (.inr (.inr (va_up (x_bf g i) (nI i).toNatClampNeg (some q))))))) :: (x_bl Ar g v i ++ w_co Ar q u)) := hD
    rw [nI_clamp (show i < 2 ^ 31 by omega), x_bf_up, ← x_bl_up] at hP hD
    refine lv_iinc (k := 0) (x := nI i) (v := nI (i + 1)) (lv' := [(1, .int (nI (i + 1))), (0, .ref h0)]) hx hb d_be_init_37 hl rfl (by rw [nI_succ]; rfl) (by decide) rfl (fun ls hl => ?_)
    refine lv_goto (tgt := 15) hx hb d_be_init_40 (by decide) ?_
    refine W.widen (k := 1 + 5 * (i + 1)) (n := 16 + 24 * (i + 1)) (by omega) (by omega) ?_
    exact ih (i + 1) _ _ ls H locs (by omega) hl hP hD hS
set_option maxHeartbeats 4000000 in
set_option maxRecDepth 20000 in
theorem k_be (l : Launch) (D : va_G) (Ar : Nat → ClassId) : x_C l y_be_init c_be_init 2 3 81 400 D Ar [] (.inr (2, [.null, .int 0, .int 0])) (w_be Ar) := by
  refine x_ofW (by decide) rfl (fun _ => Nat.le_of_ble_eq_true rfl) ?_
  intro p e s m args below meth c R h0 ls hRf hRl hRc hRs hx hb hr hlk hml hin hts hown hK hl hP hD
  have hA : ∀ q : Nat, s.heap.size ≤ q → x_A h0 s.heap.size q := fun q h => Or.inr h
  have hS : va_S (x_A h0 s.heap.size) s.heap s.heap [] := va_S.rf
  have hKK := hK.1
  have hl : lv_has ls 2 [(0, .ref h0)] := hl
  have hown : s.vm.findClass "BottleReturn$Belt" = some m.cls := hown
  refine x_obj hx hb hml hown hts (by omega) (by omega) (wt_in (List.mem_of_getElem? (i := 67) (by decide +kernel)) rfl) (wt_in (List.mem_of_getElem? (i := 24) (by decide +kernel)) rfl) (wt_in (List.mem_of_getElem? (i := 25) (by decide +kernel)) rfl) hl d_be_init_0 d_be_init_1 ?_
  refine lv_aload_n hx hb d_be_init_4 rfl (lv_at hl 0 rfl) ?_
  refine lv_bipush (v := 16) hx hb d_be_init_5 (by decide) ?_
  refine x_newq hx hb hts hown hK hP hD hS hA (wt_in (List.mem_of_getElem? (i := 68) (by decide +kernel)) rfl) (by omega) (by omega) d_be_init_7 (fun a H hP hD hS => ?_)
  refine x_putF (v := .ref a) hx hb hts hown hin hKK hP hD hS xf_be_11 rfl rfl (Nat.le_of_ble_eq_true rfl) d_be_init_10 (fun H locs hP hD hS => ?_)
  obtain ⟨hP, hD⟩ := x_chg (k := 1) (y := (16, .inr (.inr (.inr (.inr (x_bf (fun _ => 0) 0)))))) hP hD rfl (x_cellq (fun j hj => by simp [x_bf]))
  refine lv_iconst (v := 0) hx hb d_be_init_13 (by decide) ?_
  refine lv_istore_n (lv' := [(1, .int (nI 0)), (0, .ref h0)]) hx hb d_be_init_14 rfl hl (by decide) rfl (fun ls hl => ?_)
  refine W.widen (k := 1 + 5 * 0) (n := 16 + 24 * 0) (by omega) (by omega) ?_
  exact x_bloop hRf hRl hRc hRs hx hb hr hlk hml hts hown hK a 16 0 (fun _ => 0) (fun _ => (0, 0, 0, 0)) ls H locs (by omega) hl hP hD hS

abbrev x_S : Type := (Nat × ((Nat × Nat × Nat × Nat × Nat × Nat) × Nat × Nat)) × (Nat × x_SB) × (Nat × (Nat × Nat)) × (Nat × (Nat × Nat × Nat)) × (Nat × Unit) × (Nat × Nat) × Nat
def w_b (Ar : Nat → ClassId) (h0 : Nat) (u : x_S) : va_W := (h0, .inr (0, [.ref u.1.1, .ref u.2.1.1, .ref u.2.2.1.1, .ref u.2.2.2.1.1, .ref u.2.2.2.2.1.1, .ref u.2.2.2.2.2.1.1, .ref u.2.2.2.2.2.2, .int 0, .int 0, .int 0, .int 0, .int 0])) :: ((((((w_ca Ar u.1.1 u.1.2 ++ w_be Ar u.2.1.1 u.2.1.2) ++ w_bi Ar u.2.2.1.1 u.2.2.1.2) ++ w_vo Ar u.2.2.2.1.1 u.2.2.2.1.2) ++ w_jo u.2.2.2.2.1.1 u.2.2.2.2.1.2) ++ w_la Ar u.2.2.2.2.2.1.1 u.2.2.2.2.2.1.2) ++ [(u.2.2.2.2.2.2, .inl (Ar 0, 10, .inl (fun _ => 0)))])
theorem xn_b_9 : x_nw "BottleReturn" 9 1 8 [.null, .null, .null, .null, .null, .null, .null, .null] := ⟨"BottleReturn$Catalogue", T_ca, ty_ca, rfl, in_ca, tk_ca, (wt_in (List.mem_of_getElem? (i := 26) (by decide +kernel)) rfl), (wt_in (List.mem_of_getElem? (i := 27) (by decide +kernel)) rfl), (wt_in (List.mem_of_getElem? (i := 2) (by decide +kernel)) rfl), by decide⟩
theorem xf_b_12 : x_fp "BottleReturn" 12 0 0 true (.object "BottleReturn$Catalogue") := ⟨T_b, 12, ty_b, rfl, by decide, in_b, rfl, (wt_in (List.mem_of_getElem? (i := 223) (by decide +kernel)) rfl), tk_b, nm_b, rfl, tk_b 0 (by decide)⟩
theorem xn_b_16 : x_nw "BottleReturn" 16 2 3 [.null, .int 0, .int 0] := ⟨"BottleReturn$Belt", T_be, ty_be, rfl, in_be, tk_be, (wt_in (List.mem_of_getElem? (i := 62) (by decide +kernel)) rfl), (wt_in (List.mem_of_getElem? (i := 63) (by decide +kernel)) rfl), (wt_in (List.mem_of_getElem? (i := 3) (by decide +kernel)) rfl), by decide⟩
theorem xf_b_19 : x_fp "BottleReturn" 19 0 1 true (.object "BottleReturn$Belt") := ⟨T_b, 12, ty_b, rfl, by decide, in_b, rfl, (wt_in (List.mem_of_getElem? (i := 224) (by decide +kernel)) rfl), tk_b, nm_b, rfl, tk_b 1 (by decide)⟩
theorem xn_b_23 : x_nw "BottleReturn" 23 5 2 [.null, .null] := ⟨"BottleReturn$Bins", T_bi, ty_bi, rfl, in_bi, tk_bi, (wt_in (List.mem_of_getElem? (i := 146) (by decide +kernel)) rfl), (wt_in (List.mem_of_getElem? (i := 147) (by decide +kernel)) rfl), (wt_in (List.mem_of_getElem? (i := 6) (by decide +kernel)) rfl), by decide⟩
theorem xf_b_26 : x_fp "BottleReturn" 26 0 2 true (.object "BottleReturn$Bins") := ⟨T_b, 12, ty_b, rfl, by decide, in_b, rfl, (wt_in (List.mem_of_getElem? (i := 225) (by decide +kernel)) rfl), tk_b, nm_b, rfl, tk_b 2 (by decide)⟩
theorem xn_b_30 : x_nw "BottleReturn" 30 6 6 [.null, .null, .null, .int 0, .int 0, .int 0] := ⟨"BottleReturn$Vouchers", T_vo, ty_vo, rfl, in_vo, tk_vo, (wt_in (List.mem_of_getElem? (i := 161) (by decide +kernel)) rfl), (wt_in (List.mem_of_getElem? (i := 162) (by decide +kernel)) rfl), (wt_in (List.mem_of_getElem? (i := 7) (by decide +kernel)) rfl), by decide⟩
theorem xf_b_33 : x_fp "BottleReturn" 33 0 3 true (.object "BottleReturn$Vouchers") := ⟨T_b, 12, ty_b, rfl, by decide, in_b, rfl, (wt_in (List.mem_of_getElem? (i := 226) (by decide +kernel)) rfl), tk_b, nm_b, rfl, tk_b 3 (by decide)⟩
theorem xn_b_37 : x_nw "BottleReturn" 37 7 3 [.int 0, .int 0, .int 0] := ⟨"BottleReturn$Journal", T_jo, ty_jo, rfl, in_jo, tk_jo, (wt_in (List.mem_of_getElem? (i := 191) (by decide +kernel)) rfl), (wt_in (List.mem_of_getElem? (i := 192) (by decide +kernel)) rfl), (wt_in (List.mem_of_getElem? (i := 8) (by decide +kernel)) rfl), by decide⟩
theorem xf_b_40 : x_fp "BottleReturn" 40 0 4 true (.object "BottleReturn$Journal") := ⟨T_b, 12, ty_b, rfl, by decide, in_b, rfl, (wt_in (List.mem_of_getElem? (i := 227) (by decide +kernel)) rfl), tk_b, nm_b, rfl, tk_b 4 (by decide)⟩
theorem xn_b_44 : x_nw "BottleReturn" 44 8 2 [.null, .int 0] := ⟨"BottleReturn$Latest", T_la, ty_la, rfl, in_la, tk_la, (wt_in (List.mem_of_getElem? (i := 210) (by decide +kernel)) rfl), (wt_in (List.mem_of_getElem? (i := 211) (by decide +kernel)) rfl), (wt_in (List.mem_of_getElem? (i := 9) (by decide +kernel)) rfl), by decide⟩
theorem xf_b_47 : x_fp "BottleReturn" 47 0 5 true (.object "BottleReturn$Latest") := ⟨T_b, 12, ty_b, rfl, by decide, in_b, rfl, (wt_in (List.mem_of_getElem? (i := 228) (by decide +kernel)) rfl), tk_b, nm_b, rfl, tk_b 5 (by decide)⟩
theorem xf_b_51 : x_fp "BottleReturn" 51 0 6 true (.array .int) := ⟨T_b, 12, ty_b, rfl, by decide, in_b, rfl, (wt_in (List.mem_of_getElem? (i := 229) (by decide +kernel)) rfl), tk_b, nm_b, rfl, tk_b 6 (by decide)⟩
set_option maxHeartbeats 4000000 in
set_option maxRecDepth 20000 in
theorem k_b (l : Launch) (D : va_G) (Ar : Nat → ClassId) : x_C l y_b_init c_b_init 1 4 110 948 D Ar [] (.inr (0, [.null, .null, .null, .null, .null, .null, .null, .int 0, .int 0, .int 0, .int 0, .int 0])) (w_b Ar) := by
  refine x_ofW (by decide) rfl (fun _ => Nat.le_of_ble_eq_true rfl) ?_
  intro p e s m args below meth c R h0 ls hRf hRl hRc hRs hx hb hr hlk hml hin hts hown hK hl hP hD
  have hA : ∀ q : Nat, s.heap.size ≤ q → x_A h0 s.heap.size q := fun q h => Or.inr h
  have hS : va_S (x_A h0 s.heap.size) s.heap s.heap [] := va_S.rf
  have hKK := hK.1
  have hl : lv_has ls 1 [(0, .ref h0)] := hl
  have hown : s.vm.findClass "BottleReturn" = some m.cls := hown
  refine x_obj hx hb hml hown hts (by omega) (by omega) (wt_in (List.mem_of_getElem? (i := 23) (by decide +kernel)) rfl) (wt_in (List.mem_of_getElem? (i := 24) (by decide +kernel)) rfl) (wt_in (List.mem_of_getElem? (i := 25) (by decide +kernel)) rfl) hl d_b_init_0 d_b_init_1 ?_
  refine lv_aload_n hx hb d_b_init_4 rfl (lv_at hl 0 rfl) ?_
  refine x_new hx hb hts hown hKK hP hD hS hA xn_b_9 (by omega) (by omega) d_b_init_5 (fun q1 H hP hD hS => ?_)
  refine lv_dup hx hb d_b_init_8 rfl ?_
  refine x_go (ws := (h0, .inr (0, [.null, .null, .null, .null, .null, .null, .null, .int 0, .int 0, .int 0, .int 0, .int 0])) :: []) (x_runIN (ws := (h0, .inr (0, [.null, .null, .null, .null, .null, .null, .null, .int 0, .int 0, .int 0, .int 0, .int 0])) :: []) (host := "BottleReturn") (as := []) (rest := [.ref q1, .ref h0]) hx hb hml hown hts hK (k_ca l D Ar) w_ca_init (wt_in (List.mem_of_getElem? (i := 2) (by decide +kernel)) rfl) (List.mem_of_getElem? (i := 28) (by decide +kernel)) (wt_in (List.mem_of_getElem? (i := 29) (by decide +kernel)) rfl) rfl ⟨by decide, by decide, by decide +kernel⟩ ⟨by omega, by omega⟩ hP hl.1 (Nat.le_of_ble_eq_true rfl) d_b_init_9 ⟨by omega, by omega⟩) hP hD hS hA (fun u1 H locs hP hD hS => ?_)
  have hP : va_P D vwCl ((h0, .inr (0, [.null, .null, .null, .null, .null, .null, .null, .int 0, .int 0, .int 0, .int 0, .int 0])) :: (w_ca Ar q1 u1)) H := hP
  have hD : va_D (x_A h0 s.heap.size) ((h0, .inr (0, [.null, .null, .null, .null, .null, .null, .null, .int 0, .int 0, .int 0, .int 0, .int 0])) :: (w_ca Ar q1 u1)) := hD
  refine x_putF (v := .ref q1) hx hb hts hown hin hKK hP hD hS xf_b_12 rfl rfl (Nat.le_of_ble_eq_true rfl) d_b_init_12 (fun H locs hP hD hS => ?_)
  have hP : va_P D vwCl ((h0, .inr (0, [.ref q1, .null, .null, .null, .null, .null, .null, .int 0, .int 0, .int 0, .int 0, .int 0])) :: (w_ca Ar q1 u1)) H := hP
  have hD : va_D (x_A h0 s.heap.size) ((h0, .inr (0, [.ref q1, .null, .null, .null, .null, .null, .null, .int 0, .int 0, .int 0, .int 0, .int 0])) :: (w_ca Ar q1 u1)) := hD
  refine lv_aload_n hx hb d_b_init_15 rfl (lv_at hl 0 rfl) ?_
  refine x_new hx hb hts hown hKK hP hD hS hA xn_b_16 (by omega) (by omega) d_b_init_16 (fun q2 H hP hD hS => ?_)
  refine lv_dup hx hb d_b_init_19 rfl ?_
  refine x_go (ws := (h0, .inr (0, [.ref q1, .null, .null, .null, .null, .null, .null, .int 0, .int 0, .int 0, .int 0, .int 0])) :: (w_ca Ar q1 u1)) (x_runI (ws := (h0, .inr (0, [.ref q1, .null, .null, .null, .null, .null, .null, .int 0, .int 0, .int 0, .int 0, .int 0])) :: (w_ca Ar q1 u1)) (as := []) (rest := [.ref q2, .ref h0]) hx hb hml hown hts hK (k_be l D Ar) w_be_init (wt_in (List.mem_of_getElem? (i := 3) (by decide +kernel)) rfl) (wt_in (List.mem_of_getElem? (i := 64) (by decide +kernel)) rfl) (wt_in (List.mem_of_getElem? (i := 65) (by decide +kernel)) rfl) rfl ⟨by decide, by decide, by decide +kernel⟩ ⟨by omega, by omega⟩ hP hl.1 (Nat.le_of_ble_eq_true rfl) d_b_init_20 ⟨by omega, by omega⟩) hP hD hS hA (fun u2 H locs hP hD hS => ?_)
  have hP : va_P D vwCl ((h0, .inr (0, [.ref q1, .null, .null, .null, .null, .null, .null, .int 0, .int 0, .int 0, .int 0, .int 0])) :: ((w_ca Ar q1 u1) ++ (w_be Ar q2 u2))) H := hP
  have hD : va_D (x_A h0 s.heap.size) ((h0, .inr (0, [.ref q1, .null, .null, .null, .null, .null, .null, .int 0, .int 0, .int 0, .int 0, .int 0])) :: ((w_ca Ar q1 u1) ++ (w_be Ar q2 u2))) := hD
  refine x_putF (v := .ref q2) hx hb hts hown hin hKK hP hD hS xf_b_19 rfl rfl (Nat.le_of_ble_eq_true rfl) d_b_init_23 (fun H locs hP hD hS => ?_)
  have hP : va_P D vwCl ((h0, .inr (0, [.ref q1, .ref q2, .null, .null, .null, .null, .null, .int 0, .int 0, .int 0, .int 0, .int 0])) :: ((w_ca Ar q1 u1) ++ (w_be Ar q2 u2))) H := hP
  have hD : va_D (x_A h0 s.heap.size) ((h0, .inr (0, [.ref q1, .ref q2, .null, .null, .null, .null, .null, .int 0, .int 0, .int 0, .int 0, .int 0])) :: ((w_ca Ar q1 u1) ++ (w_be Ar q2 u2))) := hD
  refine lv_aload_n hx hb d_b_init_26 rfl (lv_at hl 0 rfl) ?_
  refine x_new hx hb hts hown hKK hP hD hS hA xn_b_23 (by omega) (by omega) d_b_init_27 (fun q3 H hP hD hS => ?_)
  refine lv_dup hx hb d_b_init_30 rfl ?_
  refine x_go (ws := (h0, .inr (0, [.ref q1, .ref q2, .null, .null, .null, .null, .null, .int 0, .int 0, .int 0, .int 0, .int 0])) :: ((w_ca Ar q1 u1) ++ (w_be Ar q2 u2))) (x_runI (ws := (h0, .inr (0, [.ref q1, .ref q2, .null, .null, .null, .null, .null, .int 0, .int 0, .int 0, .int 0, .int 0])) :: ((w_ca Ar q1 u1) ++ (w_be Ar q2 u2))) (as := []) (rest := [.ref q3, .ref h0]) hx hb hml hown hts hK (k_bi l D Ar) w_bi_init (wt_in (List.mem_of_getElem? (i := 6) (by decide +kernel)) rfl) (wt_in (List.mem_of_getElem? (i := 148) (by decide +kernel)) rfl) (wt_in (List.mem_of_getElem? (i := 149) (by decide +kernel)) rfl) rfl ⟨by decide, by decide, by decide +kernel⟩ ⟨by omega, by omega⟩ hP hl.1 (Nat.le_of_ble_eq_true rfl) d_b_init_31 ⟨by omega, by omega⟩) hP hD hS hA (fun u3 H locs hP hD hS => ?_)
  have hP : va_P D vwCl ((h0, .inr (0, [.ref q1, .ref q2, .null, .null, .null, .null, .null, .int 0, .int 0, .int 0, .int 0, .int 0])) :: (((w_ca Ar q1 u1) ++ (w_be Ar q2 u2)) ++ (w_bi Ar q3 u3))) H := hP
  have hD : va_D (x_A h0 s.heap.size) ((h0, .inr (0, [.ref q1, .ref q2, .null, .null, .null, .null, .null, .int 0, .int 0, .int 0, .int 0, .int 0])) :: (((w_ca Ar q1 u1) ++ (w_be Ar q2 u2)) ++ (w_bi Ar q3 u3))) := hD
  refine x_putF (v := .ref q3) hx hb hts hown hin hKK hP hD hS xf_b_26 rfl rfl (Nat.le_of_ble_eq_true rfl) d_b_init_34 (fun H locs hP hD hS => ?_)
  have hP : va_P D vwCl ((h0, .inr (0, [.ref q1, .ref q2, .ref q3, .null, .null, .null, .null, .int 0, .int 0, .int 0, .int 0, .int 0])) :: (((w_ca Ar q1 u1) ++ (w_be Ar q2 u2)) ++ (w_bi Ar q3 u3))) H := hP
  have hD : va_D (x_A h0 s.heap.size) ((h0, .inr (0, [.ref q1, .ref q2, .ref q3, .null, .null, .null, .null, .int 0, .int 0, .int 0, .int 0, .int 0])) :: (((w_ca Ar q1 u1) ++ (w_be Ar q2 u2)) ++ (w_bi Ar q3 u3))) := hD
  refine lv_aload_n hx hb d_b_init_37 rfl (lv_at hl 0 rfl) ?_
  refine x_new hx hb hts hown hKK hP hD hS hA xn_b_30 (by omega) (by omega) d_b_init_38 (fun q4 H hP hD hS => ?_)
  refine lv_dup hx hb d_b_init_41 rfl ?_
  refine x_go (ws := (h0, .inr (0, [.ref q1, .ref q2, .ref q3, .null, .null, .null, .null, .int 0, .int 0, .int 0, .int 0, .int 0])) :: (((w_ca Ar q1 u1) ++ (w_be Ar q2 u2)) ++ (w_bi Ar q3 u3))) (x_runIN (ws := (h0, .inr (0, [.ref q1, .ref q2, .ref q3, .null, .null, .null, .null, .int 0, .int 0, .int 0, .int 0, .int 0])) :: (((w_ca Ar q1 u1) ++ (w_be Ar q2 u2)) ++ (w_bi Ar q3 u3))) (host := "BottleReturn") (as := []) (rest := [.ref q4, .ref h0]) hx hb hml hown hts hK (k_vo l D Ar) w_vo_init (wt_in (List.mem_of_getElem? (i := 7) (by decide +kernel)) rfl) (List.mem_of_getElem? (i := 163) (by decide +kernel)) (wt_in (List.mem_of_getElem? (i := 164) (by decide +kernel)) rfl) rfl ⟨by decide, by decide, by decide +kernel⟩ ⟨by omega, by omega⟩ hP hl.1 (Nat.le_of_ble_eq_true rfl) d_b_init_42 ⟨by omega, by omega⟩) hP hD hS hA (fun u4 H locs hP hD hS => ?_)
  have hP : va_P D vwCl ((h0, .inr (0, [.ref q1, .ref q2, .ref q3, .null, .null, .null, .null, .int 0, .int 0, .int 0, .int 0, .int 0])) :: ((((w_ca Ar q1 u1) ++ (w_be Ar q2 u2)) ++ (w_bi Ar q3 u3)) ++ (w_vo Ar q4 u4))) H := hP
  have hD : va_D (x_A h0 s.heap.size) ((h0, .inr (0, [.ref q1, .ref q2, .ref q3, .null, .null, .null, .null, .int 0, .int 0, .int 0, .int 0, .int 0])) :: ((((w_ca Ar q1 u1) ++ (w_be Ar q2 u2)) ++ (w_bi Ar q3 u3)) ++ (w_vo Ar q4 u4))) := hD
  refine x_putF (v := .ref q4) hx hb hts hown hin hKK hP hD hS xf_b_33 rfl rfl (Nat.le_of_ble_eq_true rfl) d_b_init_45 (fun H locs hP hD hS => ?_)
  have hP : va_P D vwCl ((h0, .inr (0, [.ref q1, .ref q2, .ref q3, .ref q4, .null, .null, .null, .int 0, .int 0, .int 0, .int 0, .int 0])) :: ((((w_ca Ar q1 u1) ++ (w_be Ar q2 u2)) ++ (w_bi Ar q3 u3)) ++ (w_vo Ar q4 u4))) H := hP
  have hD : va_D (x_A h0 s.heap.size) ((h0, .inr (0, [.ref q1, .ref q2, .ref q3, .ref q4, .null, .null, .null, .int 0, .int 0, .int 0, .int 0, .int 0])) :: ((((w_ca Ar q1 u1) ++ (w_be Ar q2 u2)) ++ (w_bi Ar q3 u3)) ++ (w_vo Ar q4 u4))) := hD
  refine lv_aload_n hx hb d_b_init_48 rfl (lv_at hl 0 rfl) ?_
  refine x_new hx hb hts hown hKK hP hD hS hA xn_b_37 (by omega) (by omega) d_b_init_49 (fun q5 H hP hD hS => ?_)
  refine lv_dup hx hb d_b_init_52 rfl ?_
  refine x_go (ws := (h0, .inr (0, [.ref q1, .ref q2, .ref q3, .ref q4, .null, .null, .null, .int 0, .int 0, .int 0, .int 0, .int 0])) :: ((((w_ca Ar q1 u1) ++ (w_be Ar q2 u2)) ++ (w_bi Ar q3 u3)) ++ (w_vo Ar q4 u4))) (x_runIN (ws := (h0, .inr (0, [.ref q1, .ref q2, .ref q3, .ref q4, .null, .null, .null, .int 0, .int 0, .int 0, .int 0, .int 0])) :: ((((w_ca Ar q1 u1) ++ (w_be Ar q2 u2)) ++ (w_bi Ar q3 u3)) ++ (w_vo Ar q4 u4))) (host := "BottleReturn") (as := []) (rest := [.ref q5, .ref h0]) hx hb hml hown hts hK (k_jo l D Ar) w_jo_init (wt_in (List.mem_of_getElem? (i := 8) (by decide +kernel)) rfl) (List.mem_of_getElem? (i := 193) (by decide +kernel)) (wt_in (List.mem_of_getElem? (i := 194) (by decide +kernel)) rfl) rfl ⟨by decide, by decide, by decide +kernel⟩ ⟨by omega, by omega⟩ hP hl.1 (Nat.le_of_ble_eq_true rfl) d_b_init_53 ⟨by omega, by omega⟩) hP hD hS hA (fun u5 H locs hP hD hS => ?_)
  have hP : va_P D vwCl ((h0, .inr (0, [.ref q1, .ref q2, .ref q3, .ref q4, .null, .null, .null, .int 0, .int 0, .int 0, .int 0, .int 0])) :: (((((w_ca Ar q1 u1) ++ (w_be Ar q2 u2)) ++ (w_bi Ar q3 u3)) ++ (w_vo Ar q4 u4)) ++ (w_jo q5 u5))) H := hP
  have hD : va_D (x_A h0 s.heap.size) ((h0, .inr (0, [.ref q1, .ref q2, .ref q3, .ref q4, .null, .null, .null, .int 0, .int 0, .int 0, .int 0, .int 0])) :: (((((w_ca Ar q1 u1) ++ (w_be Ar q2 u2)) ++ (w_bi Ar q3 u3)) ++ (w_vo Ar q4 u4)) ++ (w_jo q5 u5))) := hD
  refine x_putF (v := .ref q5) hx hb hts hown hin hKK hP hD hS xf_b_40 rfl rfl (Nat.le_of_ble_eq_true rfl) d_b_init_56 (fun H locs hP hD hS => ?_)
  have hP : va_P D vwCl ((h0, .inr (0, [.ref q1, .ref q2, .ref q3, .ref q4, .ref q5, .null, .null, .int 0, .int 0, .int 0, .int 0, .int 0])) :: (((((w_ca Ar q1 u1) ++ (w_be Ar q2 u2)) ++ (w_bi Ar q3 u3)) ++ (w_vo Ar q4 u4)) ++ (w_jo q5 u5))) H := hP
  have hD : va_D (x_A h0 s.heap.size) ((h0, .inr (0, [.ref q1, .ref q2, .ref q3, .ref q4, .ref q5, .null, .null, .int 0, .int 0, .int 0, .int 0, .int 0])) :: (((((w_ca Ar q1 u1) ++ (w_be Ar q2 u2)) ++ (w_bi Ar q3 u3)) ++ (w_vo Ar q4 u4)) ++ (w_jo q5 u5))) := hD
  refine lv_aload_n hx hb d_b_init_59 rfl (lv_at hl 0 rfl) ?_
  refine x_new hx hb hts hown hKK hP hD hS hA xn_b_44 (by omega) (by omega) d_b_init_60 (fun q6 H hP hD hS => ?_)
  refine lv_dup hx hb d_b_init_63 rfl ?_
  refine x_go (ws := (h0, .inr (0, [.ref q1, .ref q2, .ref q3, .ref q4, .ref q5, .null, .null, .int 0, .int 0, .int 0, .int 0, .int 0])) :: (((((w_ca Ar q1 u1) ++ (w_be Ar q2 u2)) ++ (w_bi Ar q3 u3)) ++ (w_vo Ar q4 u4)) ++ (w_jo q5 u5))) (x_runIN (ws := (h0, .inr (0, [.ref q1, .ref q2, .ref q3, .ref q4, .ref q5, .null, .null, .int 0, .int 0, .int 0, .int 0, .int 0])) :: (((((w_ca Ar q1 u1) ++ (w_be Ar q2 u2)) ++ (w_bi Ar q3 u3)) ++ (w_vo Ar q4 u4)) ++ (w_jo q5 u5))) (host := "BottleReturn") (as := []) (rest := [.ref q6, .ref h0]) hx hb hml hown hts hK (k_la l D Ar) w_la_init (wt_in (List.mem_of_getElem? (i := 9) (by decide +kernel)) rfl) (List.mem_of_getElem? (i := 212) (by decide +kernel)) (wt_in (List.mem_of_getElem? (i := 213) (by decide +kernel)) rfl) rfl ⟨by decide, by decide, by decide +kernel⟩ ⟨by omega, by omega⟩ hP hl.1 (Nat.le_of_ble_eq_true rfl) d_b_init_64 ⟨by omega, by omega⟩) hP hD hS hA (fun u6 H locs hP hD hS => ?_)
  have hP : va_P D vwCl ((h0, .inr (0, [.ref q1, .ref q2, .ref q3, .ref q4, .ref q5, .null, .null, .int 0, .int 0, .int 0, .int 0, .int 0])) :: ((((((w_ca Ar q1 u1) ++ (w_be Ar q2 u2)) ++ (w_bi Ar q3 u3)) ++ (w_vo Ar q4 u4)) ++ (w_jo q5 u5)) ++ (w_la Ar q6 u6))) H := hP
  have hD : va_D (x_A h0 s.heap.size) ((h0, .inr (0, [.ref q1, .ref q2, .ref q3, .ref q4, .ref q5, .null, .null, .int 0, .int 0, .int 0, .int 0, .int 0])) :: ((((((w_ca Ar q1 u1) ++ (w_be Ar q2 u2)) ++ (w_bi Ar q3 u3)) ++ (w_vo Ar q4 u4)) ++ (w_jo q5 u5)) ++ (w_la Ar q6 u6))) := hD
  refine x_putF (v := .ref q6) hx hb hts hown hin hKK hP hD hS xf_b_47 rfl rfl (Nat.le_of_ble_eq_true rfl) d_b_init_67 (fun H locs hP hD hS => ?_)
  have hP : va_P D vwCl ((h0, .inr (0, [.ref q1, .ref q2, .ref q3, .ref q4, .ref q5, .ref q6, .null, .int 0, .int 0, .int 0, .int 0, .int 0])) :: ((((((w_ca Ar q1 u1) ++ (w_be Ar q2 u2)) ++ (w_bi Ar q3 u3)) ++ (w_vo Ar q4 u4)) ++ (w_jo q5 u5)) ++ (w_la Ar q6 u6))) H := hP
  have hD : va_D (x_A h0 s.heap.size) ((h0, .inr (0, [.ref q1, .ref q2, .ref q3, .ref q4, .ref q5, .ref q6, .null, .int 0, .int 0, .int 0, .int 0, .int 0])) :: ((((((w_ca Ar q1 u1) ++ (w_be Ar q2 u2)) ++ (w_bi Ar q3 u3)) ++ (w_vo Ar q4 u4)) ++ (w_jo q5 u5)) ++ (w_la Ar q6 u6))) := hD
  refine lv_aload_n hx hb d_b_init_70 rfl (lv_at hl 0 rfl) ?_
  refine lv_bipush (v := 10) hx hb d_b_init_71 (by decide) ?_
  refine x_newa (atype := .int) (ty := .int) (a0 := .inl (fun _ => 0)) (N := 10) 0 hx hb hts (wt_in (List.mem_of_getElem? (i := 61) (by decide +kernel)) rfl) rfl rfl hKK hP hD hS hA (x_hai _) (by decide) (by decide) (Nat.le_of_ble_eq_true rfl) (by omega) (by omega) d_b_init_73 (fun q7 H hP hD hS => ?_)
  have hP : va_P D vwCl ((h0, .inr (0, [.ref q1, .ref q2, .ref q3, .ref q4, .ref q5, .ref q6, .null, .int 0, .int 0, .int 0, .int 0, .int 0])) :: (((((((w_ca Ar q1 u1) ++ (w_be Ar q2 u2)) ++ (w_bi Ar q3 u3)) ++ (w_vo Ar q4 u4)) ++ (w_jo q5 u5)) ++ (w_la Ar q6 u6)) ++ [(q7, .inl (Ar 0, 10, .inl (fun _ => 0)))])) H := hP
  have hD : va_D (x_A h0 s.heap.size) ((h0, .inr (0, [.ref q1, .ref q2, .ref q3, .ref q4, .ref q5, .ref q6, .null, .int 0, .int 0, .int 0, .int 0, .int 0])) :: (((((((w_ca Ar q1 u1) ++ (w_be Ar q2 u2)) ++ (w_bi Ar q3 u3)) ++ (w_vo Ar q4 u4)) ++ (w_jo q5 u5)) ++ (w_la Ar q6 u6)) ++ [(q7, .inl (Ar 0, 10, .inl (fun _ => 0)))])) := hD
  refine x_putF (v := .ref q7) hx hb hts hown hin hKK hP hD hS xf_b_51 rfl rfl (Nat.le_of_ble_eq_true rfl) d_b_init_75 (fun H locs hP hD hS => ?_)
  have hP : va_P D vwCl ((h0, .inr (0, [.ref q1, .ref q2, .ref q3, .ref q4, .ref q5, .ref q6, .ref q7, .int 0, .int 0, .int 0, .int 0, .int 0])) :: (((((((w_ca Ar q1 u1) ++ (w_be Ar q2 u2)) ++ (w_bi Ar q3 u3)) ++ (w_vo Ar q4 u4)) ++ (w_jo q5 u5)) ++ (w_la Ar q6 u6)) ++ [(q7, .inl (Ar 0, 10, .inl (fun _ => 0)))])) H := hP
  have hD : va_D (x_A h0 s.heap.size) ((h0, .inr (0, [.ref q1, .ref q2, .ref q3, .ref q4, .ref q5, .ref q6, .ref q7, .int 0, .int 0, .int 0, .int 0, .int 0])) :: (((((((w_ca Ar q1 u1) ++ (w_be Ar q2 u2)) ++ (w_bi Ar q3 u3)) ++ (w_vo Ar q4 u4)) ++ (w_jo q5 u5)) ++ (w_la Ar q6 u6)) ++ [(q7, .inl (Ar 0, 10, .inl (fun _ => 0)))])) := hD
  exact x_ret ((q1, u1), (q2, u2), (q3, u3), (q4, u4), (q5, u5), (q6, u6), q7) hx hb hr hlk hP hD hS (by omega) (by omega) d_b_init_78

