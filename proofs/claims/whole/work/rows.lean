section
-- ===== PART A: goes FIRST, ahead of the names: the tables' words, and 'selects' of the private methods out of them =====
/-- a private method of a class that the tables say can be made, by its rows of tables_1 -/
def lw_okq (q : MethodName × Nat) : Prop := (q.1.cls ≠ "java/lang/invoke/MethodHandle" ∧ q.1.cls ≠ "java/lang/invoke/VarHandle") ∧ Cond.instantiable q.1.cls q.2 ∈ tables_1 ∧ Cond.privateMethod q.1 ∈ tables_1 ∧ Cond.instanceMethod q.1 ∈ tables_1
theorem lw_p0 : lw_okq (⟨"BottleReturn", "payUnpaid", "()V"⟩, 12) := ⟨⟨by decide +kernel, by decide +kernel⟩, List.mem_of_getElem? (i := 19) (by decide +kernel), List.mem_of_getElem? (i := 273) (by decide +kernel), List.mem_of_getElem? (i := 274) (by decide +kernel)⟩
theorem lw_p1 : lw_okq (⟨"BottleReturn", "pay", "(LBottleReturn$Container;)V"⟩, 12) := ⟨⟨by decide +kernel, by decide +kernel⟩, List.mem_of_getElem? (i := 19) (by decide +kernel), List.mem_of_getElem? (i := 277) (by decide +kernel), List.mem_of_getElem? (i := 278) (by decide +kernel)⟩
theorem lw_p2 : lw_okq (⟨"BottleReturn", "binWaiting", "()V"⟩, 12) := ⟨⟨by decide +kernel, by decide +kernel⟩, List.mem_of_getElem? (i := 19) (by decide +kernel), List.mem_of_getElem? (i := 285) (by decide +kernel), List.mem_of_getElem? (i := 286) (by decide +kernel)⟩
theorem lw_p3 : lw_okq (⟨"BottleReturn", "intoBin", "(I)Z"⟩, 12) := ⟨⟨by decide +kernel, by decide +kernel⟩, List.mem_of_getElem? (i := 19) (by decide +kernel), List.mem_of_getElem? (i := 293) (by decide +kernel), List.mem_of_getElem? (i := 294) (by decide +kernel)⟩
theorem lw_p4 : lw_okq (⟨"BottleReturn", "requireOn", "()V"⟩, 12) := ⟨⟨by decide +kernel, by decide +kernel⟩, List.mem_of_getElem? (i := 19) (by decide +kernel), List.mem_of_getElem? (i := 317) (by decide +kernel), List.mem_of_getElem? (i := 318) (by decide +kernel)⟩
theorem lw_p5 : lw_okq (⟨"java/lang/Throwable", "fillInStackTrace", "(I)Ljava/lang/Throwable;"⟩, 6) := ⟨⟨by decide +kernel, by decide +kernel⟩, List.mem_of_getElem? (i := 358) (by decide +kernel), List.mem_of_getElem? (i := 356) (by decide +kernel), List.mem_of_getElem? (i := 357) (by decide +kernel)⟩
theorem lw_p6 : lw_okq (⟨"BottleReturn", "requireEmptyBelt", "()V"⟩, 12) := ⟨⟨by decide +kernel, by decide +kernel⟩, List.mem_of_getElem? (i := 19) (by decide +kernel), List.mem_of_getElem? (i := 415) (by decide +kernel), List.mem_of_getElem? (i := 416) (by decide +kernel)⟩
theorem lw_p7 : lw_okq (⟨"BottleReturn", "stepForward", "()V"⟩, 12) := ⟨⟨by decide +kernel, by decide +kernel⟩, List.mem_of_getElem? (i := 19) (by decide +kernel), List.mem_of_getElem? (i := 498) (by decide +kernel), List.mem_of_getElem? (i := 499) (by decide +kernel)⟩
theorem lw_p8 : lw_okq (⟨"BottleReturn", "leavesOnArrival", "(I)Z"⟩, 12) := ⟨⟨by decide +kernel, by decide +kernel⟩, List.mem_of_getElem? (i := 19) (by decide +kernel), List.mem_of_getElem? (i := 506) (by decide +kernel), List.mem_of_getElem? (i := 507) (by decide +kernel)⟩
theorem lw_p9 : lw_okq (⟨"BottleReturn", "judge", "(LBottleReturn$Container;)V"⟩, 12) := ⟨⟨by decide +kernel, by decide +kernel⟩, List.mem_of_getElem? (i := 19) (by decide +kernel), List.mem_of_getElem? (i := 510) (by decide +kernel), List.mem_of_getElem? (i := 511) (by decide +kernel)⟩
theorem lw_p10 : lw_okq (⟨"BottleReturn", "judgementByReadings", "(LBottleReturn$Container;I)I"⟩, 12) := ⟨⟨by decide +kernel, by decide +kernel⟩, List.mem_of_getElem? (i := 19) (by decide +kernel), List.mem_of_getElem? (i := 519) (by decide +kernel), List.mem_of_getElem? (i := 520) (by decide +kernel)⟩
theorem lw_p11 : lw_okq (⟨"BottleReturn", "judgementByState", "(LBottleReturn$Container;I)I"⟩, 12) := ⟨⟨by decide +kernel, by decide +kernel⟩, List.mem_of_getElem? (i := 19) (by decide +kernel), List.mem_of_getElem? (i := 540) (by decide +kernel), List.mem_of_getElem? (i := 541) (by decide +kernel)⟩
theorem lw_p12 : lw_okq (⟨"BottleReturn", "acceptedFor", "(I)I"⟩, 12) := ⟨⟨by decide +kernel, by decide +kernel⟩, List.mem_of_getElem? (i := 19) (by decide +kernel), List.mem_of_getElem? (i := 544) (by decide +kernel), List.mem_of_getElem? (i := 545) (by decide +kernel)⟩
theorem lw_p13 : lw_okq (⟨"BottleReturn", "isSuspicious", "()Z"⟩, 12) := ⟨⟨by decide +kernel, by decide +kernel⟩, List.mem_of_getElem? (i := 19) (by decide +kernel), List.mem_of_getElem? (i := 552) (by decide +kernel), List.mem_of_getElem? (i := 553) (by decide +kernel)⟩
theorem lw_p14 : lw_okq (⟨"BottleReturnModel", "fails", "(ZI)Z"⟩, 26) := ⟨⟨by decide +kernel, by decide +kernel⟩, List.mem_of_getElem? (i := 712) (by decide +kernel), List.mem_of_getElem? (i := 805) (by decide +kernel), List.mem_of_getElem? (i := 806) (by decide +kernel)⟩
theorem lw_p15 : lw_okq (⟨"BottleReturnModel", "kindOf", "(I)I"⟩, 26) := ⟨⟨by decide +kernel, by decide +kernel⟩, List.mem_of_getElem? (i := 712) (by decide +kernel), List.mem_of_getElem? (i := 817) (by decide +kernel), List.mem_of_getElem? (i := 818) (by decide +kernel)⟩
def lw_privs_1 : List (MethodName × Nat) := [(⟨"BottleReturn", "payUnpaid", "()V"⟩, 12), (⟨"BottleReturn", "pay", "(LBottleReturn$Container;)V"⟩, 12), (⟨"BottleReturn", "binWaiting", "()V"⟩, 12), (⟨"BottleReturn", "intoBin", "(I)Z"⟩, 12), (⟨"BottleReturn", "requireOn", "()V"⟩, 12), (⟨"java/lang/Throwable", "fillInStackTrace", "(I)Ljava/lang/Throwable;"⟩, 6), (⟨"BottleReturn", "requireEmptyBelt", "()V"⟩, 12), (⟨"BottleReturn", "stepForward", "()V"⟩, 12), (⟨"BottleReturn", "leavesOnArrival", "(I)Z"⟩, 12), (⟨"BottleReturn", "judge", "(LBottleReturn$Container;)V"⟩, 12), (⟨"BottleReturn", "judgementByReadings", "(LBottleReturn$Container;I)I"⟩, 12), (⟨"BottleReturn", "judgementByState", "(LBottleReturn$Container;I)I"⟩, 12), (⟨"BottleReturn", "acceptedFor", "(I)I"⟩, 12), (⟨"BottleReturn", "isSuspicious", "()Z"⟩, 12), (⟨"BottleReturnModel", "fails", "(ZI)Z"⟩, 26), (⟨"BottleReturnModel", "kindOf", "(I)I"⟩, 26)]
theorem lw_r1 : ∀ q ∈ lw_privs_1, lw_okq q := List.forall_mem_cons.mpr ⟨lw_p0, List.forall_mem_cons.mpr ⟨lw_p1, List.forall_mem_cons.mpr ⟨lw_p2, List.forall_mem_cons.mpr ⟨lw_p3, List.forall_mem_cons.mpr ⟨lw_p4, List.forall_mem_cons.mpr ⟨lw_p5, List.forall_mem_cons.mpr ⟨lw_p6, List.forall_mem_cons.mpr ⟨lw_p7, List.forall_mem_cons.mpr ⟨lw_p8, List.forall_mem_cons.mpr ⟨lw_p9, List.forall_mem_cons.mpr ⟨lw_p10, List.forall_mem_cons.mpr ⟨lw_p11, List.forall_mem_cons.mpr ⟨lw_p12, List.forall_mem_cons.mpr ⟨lw_p13, List.forall_mem_cons.mpr ⟨lw_p14, List.forall_mem_cons.mpr ⟨lw_p15, fun _ h => absurd h List.not_mem_nil⟩⟩⟩⟩⟩⟩⟩⟩⟩⟩⟩⟩⟩⟩⟩⟩
theorem lw_p16 : lw_okq (⟨"BottleReturnModel", "rear", "(I)I"⟩, 26) := ⟨⟨by decide +kernel, by decide +kernel⟩, List.mem_of_getElem? (i := 712) (by decide +kernel), List.mem_of_getElem? (i := 825) (by decide +kernel), List.mem_of_getElem? (i := 826) (by decide +kernel)⟩
theorem lw_p17 : lw_okq (⟨"BottleReturnModel", "get", "(II)I"⟩, 26) := ⟨⟨by decide +kernel, by decide +kernel⟩, List.mem_of_getElem? (i := 712) (by decide +kernel), List.mem_of_getElem? (i := 829) (by decide +kernel), List.mem_of_getElem? (i := 830) (by decide +kernel)⟩
theorem lw_p18 : lw_okq (⟨"BottleReturnModel", "put", "(III)V"⟩, 26) := ⟨⟨by decide +kernel, by decide +kernel⟩, List.mem_of_getElem? (i := 712) (by decide +kernel), List.mem_of_getElem? (i := 833) (by decide +kernel), List.mem_of_getElem? (i := 834) (by decide +kernel)⟩
theorem lw_p19 : lw_okq (⟨"BottleReturnModel", "over", "(I)I"⟩, 26) := ⟨⟨by decide +kernel, by decide +kernel⟩, List.mem_of_getElem? (i := 712) (by decide +kernel), List.mem_of_getElem? (i := 841) (by decide +kernel), List.mem_of_getElem? (i := 842) (by decide +kernel)⟩
theorem lw_p20 : lw_okq (⟨"BottleReturnModel", "isBlocked", "()Z"⟩, 26) := ⟨⟨by decide +kernel, by decide +kernel⟩, List.mem_of_getElem? (i := 712) (by decide +kernel), List.mem_of_getElem? (i := 857) (by decide +kernel), List.mem_of_getElem? (i := 858) (by decide +kernel)⟩
theorem lw_p21 : lw_okq (⟨"BottleReturnModel", "judge", "(I)V"⟩, 26) := ⟨⟨by decide +kernel, by decide +kernel⟩, List.mem_of_getElem? (i := 712) (by decide +kernel), List.mem_of_getElem? (i := 861) (by decide +kernel), List.mem_of_getElem? (i := 862) (by decide +kernel)⟩
theorem lw_p22 : lw_okq (⟨"BottleReturnModel", "against", "(I)I"⟩, 26) := ⟨⟨by decide +kernel, by decide +kernel⟩, List.mem_of_getElem? (i := 712) (by decide +kernel), List.mem_of_getElem? (i := 865) (by decide +kernel), List.mem_of_getElem? (i := 866) (by decide +kernel)⟩
theorem lw_p23 : lw_okq (⟨"BottleReturnModel", "isSuspicious", "()Z"⟩, 26) := ⟨⟨by decide +kernel, by decide +kernel⟩, List.mem_of_getElem? (i := 712) (by decide +kernel), List.mem_of_getElem? (i := 869) (by decide +kernel), List.mem_of_getElem? (i := 870) (by decide +kernel)⟩
theorem lw_p24 : lw_okq (⟨"BottleReturnModel", "writes", "()Z"⟩, 26) := ⟨⟨by decide +kernel, by decide +kernel⟩, List.mem_of_getElem? (i := 712) (by decide +kernel), List.mem_of_getElem? (i := 873) (by decide +kernel), List.mem_of_getElem? (i := 874) (by decide +kernel)⟩
theorem lw_p25 : lw_okq (⟨"BottleReturnModel", "pay", "(I)V"⟩, 26) := ⟨⟨by decide +kernel, by decide +kernel⟩, List.mem_of_getElem? (i := 712) (by decide +kernel), List.mem_of_getElem? (i := 877) (by decide +kernel), List.mem_of_getElem? (i := 878) (by decide +kernel)⟩
theorem lw_p26 : lw_okq (⟨"BottleReturnModel", "drop", "(I)Z"⟩, 26) := ⟨⟨by decide +kernel, by decide +kernel⟩, List.mem_of_getElem? (i := 712) (by decide +kernel), List.mem_of_getElem? (i := 881) (by decide +kernel), List.mem_of_getElem? (i := 882) (by decide +kernel)⟩
theorem lw_p27 : lw_okq (⟨"BottleReturnModel", "remove", "(I)V"⟩, 26) := ⟨⟨by decide +kernel, by decide +kernel⟩, List.mem_of_getElem? (i := 712) (by decide +kernel), List.mem_of_getElem? (i := 885) (by decide +kernel), List.mem_of_getElem? (i := 886) (by decide +kernel)⟩
theorem lw_p28 : lw_okq (⟨"BottleReturnModel", "forget", "(I)V"⟩, 26) := ⟨⟨by decide +kernel, by decide +kernel⟩, List.mem_of_getElem? (i := 712) (by decide +kernel), List.mem_of_getElem? (i := 893) (by decide +kernel), List.mem_of_getElem? (i := 894) (by decide +kernel)⟩
theorem lw_p29 : lw_okq (⟨"BottleReturnModel", "voucherAt", "(I)I"⟩, 26) := ⟨⟨by decide +kernel, by decide +kernel⟩, List.mem_of_getElem? (i := 712) (by decide +kernel), List.mem_of_getElem? (i := 909) (by decide +kernel), List.mem_of_getElem? (i := 910) (by decide +kernel)⟩
theorem lw_p30 : lw_okq (⟨"BottleReturnModel", "endOf", "(I)I"⟩, 26) := ⟨⟨by decide +kernel, by decide +kernel⟩, List.mem_of_getElem? (i := 712) (by decide +kernel), List.mem_of_getElem? (i := 945) (by decide +kernel), List.mem_of_getElem? (i := 946) (by decide +kernel)⟩
theorem lw_p31 : lw_okq (⟨"BottleReturnModel", "find", "(I)I"⟩, 26) := ⟨⟨by decide +kernel, by decide +kernel⟩, List.mem_of_getElem? (i := 712) (by decide +kernel), List.mem_of_getElem? (i := 953) (by decide +kernel), List.mem_of_getElem? (i := 954) (by decide +kernel)⟩
def lw_privs_2 : List (MethodName × Nat) := [(⟨"BottleReturnModel", "rear", "(I)I"⟩, 26), (⟨"BottleReturnModel", "get", "(II)I"⟩, 26), (⟨"BottleReturnModel", "put", "(III)V"⟩, 26), (⟨"BottleReturnModel", "over", "(I)I"⟩, 26), (⟨"BottleReturnModel", "isBlocked", "()Z"⟩, 26), (⟨"BottleReturnModel", "judge", "(I)V"⟩, 26), (⟨"BottleReturnModel", "against", "(I)I"⟩, 26), (⟨"BottleReturnModel", "isSuspicious", "()Z"⟩, 26), (⟨"BottleReturnModel", "writes", "()Z"⟩, 26), (⟨"BottleReturnModel", "pay", "(I)V"⟩, 26), (⟨"BottleReturnModel", "drop", "(I)Z"⟩, 26), (⟨"BottleReturnModel", "remove", "(I)V"⟩, 26), (⟨"BottleReturnModel", "forget", "(I)V"⟩, 26), (⟨"BottleReturnModel", "voucherAt", "(I)I"⟩, 26), (⟨"BottleReturnModel", "endOf", "(I)I"⟩, 26), (⟨"BottleReturnModel", "find", "(I)I"⟩, 26)]
theorem lw_r2 : ∀ q ∈ lw_privs_2, lw_okq q := List.forall_mem_cons.mpr ⟨lw_p16, List.forall_mem_cons.mpr ⟨lw_p17, List.forall_mem_cons.mpr ⟨lw_p18, List.forall_mem_cons.mpr ⟨lw_p19, List.forall_mem_cons.mpr ⟨lw_p20, List.forall_mem_cons.mpr ⟨lw_p21, List.forall_mem_cons.mpr ⟨lw_p22, List.forall_mem_cons.mpr ⟨lw_p23, List.forall_mem_cons.mpr ⟨lw_p24, List.forall_mem_cons.mpr ⟨lw_p25, List.forall_mem_cons.mpr ⟨lw_p26, List.forall_mem_cons.mpr ⟨lw_p27, List.forall_mem_cons.mpr ⟨lw_p28, List.forall_mem_cons.mpr ⟨lw_p29, List.forall_mem_cons.mpr ⟨lw_p30, List.forall_mem_cons.mpr ⟨lw_p31, fun _ h => absurd h List.not_mem_nil⟩⟩⟩⟩⟩⟩⟩⟩⟩⟩⟩⟩⟩⟩⟩⟩
def lw_privs : List (MethodName × Nat) := lw_privs_1 ++ (lw_privs_2)
def lw_tbl : List Cond := k2_sels lw_privs ++ tables_1
theorem lw_privs_ok : ∀ q ∈ lw_privs, lw_okq q := by
  show ∀ q ∈ lw_privs_1 ++ (lw_privs_2), lw_okq q
  exact List.forall_mem_append.mpr ⟨lw_r1, lw_r2⟩

/-! the words that every method of this claim takes: those of the tables that stay true as the tables grow warmer -/
def wt : List Cond := lw_tbl.filter goodWord
theorem wt_in {w : Cond} (h : w ∈ tables_1) (hg : goodWord w = true) : w ∈ wt := List.mem_filter.mpr ⟨List.mem_append_right _ h, hg⟩
theorem wt_sel {w : Cond} (h : w ∈ k2_sels lw_privs) (hg : goodWord w = true) : w ∈ wt := List.mem_filter.mpr ⟨List.mem_append_left _ h, hg⟩
theorem wt_of {args : Array Value} {s : State} (h : ∀ w ∈ lw_tbl, w.before args s = true) : ∀ w ∈ wt, w.before args s = true := fun w hw => h w (List.mem_filter.mp hw).1
theorem wt_at {args : Array Value} {s : State} (h : ∀ w ∈ wt, w.before args s = true) : ∀ w ∈ wt, ∀ (a : Array Value) (U : State), s.WarmedH U.vm → w.before a U = true := fun w hw a U hW => word_at hW (good_of_word (List.mem_filter.mp hw).2) (h w hw)

def T_b : u_T := fun k => match k with
  | 0 => ("BottleReturn", "catalogue", "LBottleReturn$Catalogue;", true)
  | 1 => ("BottleReturn", "onBelt", "LBottleReturn$Belt;", true)
  | 2 => ("BottleReturn", "bins", "LBottleReturn$Bins;", true)
  | 3 => ("BottleReturn", "vouchers", "LBottleReturn$Vouchers;", true)
  | 4 => ("BottleReturn", "journal", "LBottleReturn$Journal;", true)
  | 5 => ("BottleReturn", "latest", "LBottleReturn$Latest;", true)
  | 6 => ("BottleReturn", "refused", "[I", true)
  | 7 => ("BottleReturn", "credit", "I", false)
  | 8 => ("BottleReturn", "paidCount", "I", false)
  | 9 => ("BottleReturn", "paidCents", "I", false)
  | 10 => ("BottleReturn", "givenCents", "I", false)
  | _ => ("BottleReturn", "stepsBack", "I", false)
def ty_b : Nat → FieldType := fun k => match k with
  | 0 => .object "BottleReturn$Catalogue"
  | 1 => .object "BottleReturn$Belt"
  | 2 => .object "BottleReturn$Bins"
  | 3 => .object "BottleReturn$Vouchers"
  | 4 => .object "BottleReturn$Journal"
  | 5 => .object "BottleReturn$Latest"
  | 6 => .array .int
  | 7 => .int
  | 8 => .int
  | 9 => .int
  | 10 => .int
  | _ => .int
theorem nm_b : ∀ a, a < 12 → ∀ b, b < 12 → a ≠ b → (T_b a).2.1 ≠ (T_b b).2.1 := by decide +kernel
theorem tk_b : ∀ k, k < 12 → parseFieldDescriptor (T_b k).2.2.1 = some (ty_b k) := by decide +kernel
theorem in_b : ∀ w ∈ u_ws "BottleReturn" T_b 12, w ∈ wt := by decide +kernel
def T_ca : u_T := fun k => match k with
  | 0 => ("BottleReturn$Catalogue", "codes", "[I", true)
  | 1 => ("BottleReturn$Catalogue", "deposits", "[I", true)
  | 2 => ("BottleReturn$Catalogue", "bins", "[I", true)
  | 3 => ("BottleReturn$Catalogue", "lows", "[I", true)
  | 4 => ("BottleReturn$Catalogue", "highs", "[I", true)
  | 5 => ("BottleReturn$Catalogue", "contours", "[I", true)
  | 6 => ("BottleReturn$Catalogue", "widths", "[[I", true)
  | _ => ("BottleReturn$Catalogue", "limits", "[I", true)
def ty_ca : Nat → FieldType := fun k => match k with
  | 0 => .array .int
  | 1 => .array .int
  | 2 => .array .int
  | 3 => .array .int
  | 4 => .array .int
  | 5 => .array .int
  | 6 => .array (.array .int)
  | _ => .array .int
theorem nm_ca : ∀ a, a < 8 → ∀ b, b < 8 → a ≠ b → (T_ca a).2.1 ≠ (T_ca b).2.1 := by decide +kernel
theorem tk_ca : ∀ k, k < 8 → parseFieldDescriptor (T_ca k).2.2.1 = some (ty_ca k) := by decide +kernel
theorem in_ca : ∀ w ∈ u_ws "BottleReturn$Catalogue" T_ca 8, w ∈ wt := by decide +kernel
def T_be : u_T := fun k => match k with
  | 0 => ("BottleReturn$Belt", "row", "[LBottleReturn$Container;", true)
  | 1 => ("BottleReturn$Belt", "count", "I", false)
  | _ => ("BottleReturn$Belt", "entered", "I", false)
def ty_be : Nat → FieldType := fun k => match k with
  | 0 => .array (.object "BottleReturn$Container")
  | 1 => .int
  | _ => .int
theorem nm_be : ∀ a, a < 3 → ∀ b, b < 3 → a ≠ b → (T_be a).2.1 ≠ (T_be b).2.1 := by decide +kernel
theorem tk_be : ∀ k, k < 3 → parseFieldDescriptor (T_be k).2.2.1 = some (ty_be k) := by decide +kernel
theorem in_be : ∀ w ∈ u_ws "BottleReturn$Belt" T_be 3, w ∈ wt := by decide +kernel
def T_co : u_T := fun k => match k with
  | 0 => ("BottleReturn$Container", "codes", "LBottleReturn$Row;", true)
  | 1 => ("BottleReturn$Container", "widths", "LBottleReturn$Row;", true)
  | 2 => ("BottleReturn$Container", "number", "I", false)
  | 3 => ("BottleReturn$Container", "length", "I", false)
  | 4 => ("BottleReturn$Container", "front", "I", false)
  | 5 => ("BottleReturn$Container", "weight", "I", false)
  | 6 => ("BottleReturn$Container", "judgement", "I", false)
  | 7 => ("BottleReturn$Container", "kind", "I", false)
  | _ => ("BottleReturn$Container", "paid", "Z", false)
def ty_co : Nat → FieldType := fun k => match k with
  | 0 => .object "BottleReturn$Row"
  | 1 => .object "BottleReturn$Row"
  | 2 => .int
  | 3 => .int
  | 4 => .int
  | 5 => .int
  | 6 => .int
  | 7 => .int
  | _ => .boolean
theorem nm_co : ∀ a, a < 9 → ∀ b, b < 9 → a ≠ b → (T_co a).2.1 ≠ (T_co b).2.1 := by decide +kernel
theorem tk_co : ∀ k, k < 9 → parseFieldDescriptor (T_co k).2.2.1 = some (ty_co k) := by decide +kernel
theorem in_co : ∀ w ∈ u_ws "BottleReturn$Container" T_co 9, w ∈ wt := by decide +kernel
def T_ro : u_T := fun k => match k with
  | 0 => ("BottleReturn$Row", "values", "[I", true)
  | _ => ("BottleReturn$Row", "count", "I", false)
def ty_ro : Nat → FieldType := fun k => match k with
  | 0 => .array .int
  | _ => .int
theorem nm_ro : ∀ a, a < 2 → ∀ b, b < 2 → a ≠ b → (T_ro a).2.1 ≠ (T_ro b).2.1 := by decide +kernel
theorem tk_ro : ∀ k, k < 2 → parseFieldDescriptor (T_ro k).2.2.1 = some (ty_ro k) := by decide +kernel
theorem in_ro : ∀ w ∈ u_ws "BottleReturn$Row" T_ro 2, w ∈ wt := by decide +kernel
def T_bi : u_T := fun k => match k with
  | 0 => ("BottleReturn$Bins", "held", "[I", true)
  | _ => ("BottleReturn$Bins", "rooms", "[I", true)
def ty_bi : Nat → FieldType := fun k => match k with
  | 0 => .array .int
  | _ => .array .int
theorem nm_bi : ∀ a, a < 2 → ∀ b, b < 2 → a ≠ b → (T_bi a).2.1 ≠ (T_bi b).2.1 := by decide +kernel
theorem tk_bi : ∀ k, k < 2 → parseFieldDescriptor (T_bi k).2.2.1 = some (ty_bi k) := by decide +kernel
theorem in_bi : ∀ w ∈ u_ws "BottleReturn$Bins" T_bi 2, w ∈ wt := by decide +kernel
def T_vo : u_T := fun k => match k with
  | 0 => ("BottleReturn$Vouchers", "serials", "[I", true)
  | 1 => ("BottleReturn$Vouchers", "sums", "[I", true)
  | 2 => ("BottleReturn$Vouchers", "redeemed", "[Z", true)
  | 3 => ("BottleReturn$Vouchers", "kept", "I", false)
  | 4 => ("BottleReturn$Vouchers", "issued", "I", false)
  | _ => ("BottleReturn$Vouchers", "cents", "I", false)
def ty_vo : Nat → FieldType := fun k => match k with
  | 0 => .array .int
  | 1 => .array .int
  | 2 => .array .boolean
  | 3 => .int
  | 4 => .int
  | _ => .int
theorem nm_vo : ∀ a, a < 6 → ∀ b, b < 6 → a ≠ b → (T_vo a).2.1 ≠ (T_vo b).2.1 := by decide +kernel
theorem tk_vo : ∀ k, k < 6 → parseFieldDescriptor (T_vo k).2.2.1 = some (ty_vo k) := by decide +kernel
theorem in_vo : ∀ w ∈ u_ws "BottleReturn$Vouchers" T_vo 6, w ∈ wt := by decide +kernel
def T_jo : u_T := fun k => match k with
  | 0 => ("BottleReturn$Journal", "records", "I", false)
  | 1 => ("BottleReturn$Journal", "cut", "I", false)
  | _ => ("BottleReturn$Journal", "on", "Z", false)
def ty_jo : Nat → FieldType := fun k => match k with
  | 0 => .int
  | 1 => .int
  | _ => .boolean
theorem nm_jo : ∀ a, a < 3 → ∀ b, b < 3 → a ≠ b → (T_jo a).2.1 ≠ (T_jo b).2.1 := by decide +kernel
theorem tk_jo : ∀ k, k < 3 → parseFieldDescriptor (T_jo k).2.2.1 = some (ty_jo k) := by decide +kernel
theorem in_jo : ∀ w ∈ u_ws "BottleReturn$Journal" T_jo 3, w ∈ wt := by decide +kernel
def T_la : u_T := fun k => match k with
  | 0 => ("BottleReturn$Latest", "widths", "[I", true)
  | _ => ("BottleReturn$Latest", "times", "I", false)
def ty_la : Nat → FieldType := fun k => match k with
  | 0 => .array .int
  | _ => .int
theorem nm_la : ∀ a, a < 2 → ∀ b, b < 2 → a ≠ b → (T_la a).2.1 ≠ (T_la b).2.1 := by decide +kernel
theorem tk_la : ∀ k, k < 2 → parseFieldDescriptor (T_la k).2.2.1 = some (ty_la k) := by decide +kernel
theorem in_la : ∀ w ∈ u_ws "BottleReturn$Latest" T_la 2, w ∈ wt := by decide +kernel
def T_m : u_T := fun k => match k with
  | 0 => ("BottleReturnModel", "contours", "[I", true)
  | 1 => ("BottleReturnModel", "limits", "[I", true)
  | 2 => ("BottleReturnModel", "kinds", "[I", true)
  | 3 => ("BottleReturnModel", "belt", "[I", true)
  | 4 => ("BottleReturnModel", "size", "I", false)
  | 5 => ("BottleReturnModel", "entered", "I", false)
  | 6 => ("BottleReturnModel", "bins", "[I", true)
  | 7 => ("BottleReturnModel", "rooms", "[I", true)
  | 8 => ("BottleReturnModel", "credit", "I", false)
  | 9 => ("BottleReturnModel", "serials", "[I", true)
  | 10 => ("BottleReturnModel", "vouchers", "[I", true)
  | 11 => ("BottleReturnModel", "redeemed", "[Z", true)
  | 12 => ("BottleReturnModel", "kept", "I", false)
  | 13 => ("BottleReturnModel", "serial", "I", false)
  | 14 => ("BottleReturnModel", "latest", "[I", true)
  | 15 => ("BottleReturnModel", "accepted", "I", false)
  | 16 => ("BottleReturnModel", "backwards", "I", false)
  | 17 => ("BottleReturnModel", "off", "Z", false)
  | 18 => ("BottleReturnModel", "cut", "I", false)
  | 19 => ("BottleReturnModel", "records", "I", false)
  | 20 => ("BottleReturnModel", "refused", "[I", true)
  | 21 => ("BottleReturnModel", "paid", "I", false)
  | 22 => ("BottleReturnModel", "paidCents", "I", false)
  | 23 => ("BottleReturnModel", "voucherCents", "I", false)
  | 24 => ("BottleReturnModel", "given", "I", false)
  | _ => ("BottleReturnModel", "thrown", "I", false)
def ty_m : Nat → FieldType := fun k => match k with
  | 0 => .array .int
  | 1 => .array .int
  | 2 => .array .int
  | 3 => .array .int
  | 4 => .int
  | 5 => .int
  | 6 => .array .int
  | 7 => .array .int
  | 8 => .int
  | 9 => .array .int
  | 10 => .array .int
  | 11 => .array .boolean
  | 12 => .int
  | 13 => .int
  | 14 => .array .int
  | 15 => .int
  | 16 => .int
  | 17 => .boolean
  | 18 => .int
  | 19 => .int
  | 20 => .array .int
  | 21 => .int
  | 22 => .int
  | 23 => .int
  | 24 => .int
  | _ => .int
theorem nm_m : ∀ a, a < 26 → ∀ b, b < 26 → a ≠ b → (T_m a).2.1 ≠ (T_m b).2.1 := by decide +kernel
theorem tk_m : ∀ k, k < 26 → parseFieldDescriptor (T_m k).2.2.1 = some (ty_m k) := by decide +kernel
theorem in_m : ∀ w ∈ u_ws "BottleReturnModel" T_m 26, w ∈ wt := by decide +kernel
abbrev vwCl : List vw_C := [("BottleReturn", T_b, 12), ("BottleReturn$Catalogue", T_ca, 8), ("BottleReturn$Belt", T_be, 3), ("BottleReturn$Container", T_co, 9), ("BottleReturn$Row", T_ro, 2), ("BottleReturn$Bins", T_bi, 2), ("BottleReturn$Vouchers", T_vo, 6), ("BottleReturn$Journal", T_jo, 3), ("BottleReturn$Latest", T_la, 2), ("BottleReturnModel", T_m, 26)]
def y_b_init : MethodName := ⟨"BottleReturn", "<init>", "()V"⟩
abbrev c_b_init : ByteArray := prog_1_method_1_code
theorem w_b_init : Cond.code y_b_init c_b_init 1 (Option.none : Option Jvm.ClassFile.FieldType) ∈ wt := wt_in (List.mem_of_getElem? (i := 22) (by decide +kernel)) rfl
def y_b_contour : MethodName := ⟨"BottleReturn", "contour", "(IIII)V"⟩
abbrev c_b_contour : ByteArray := prog_1_method_2_code
theorem w_b_contour : Cond.code y_b_contour c_b_contour 5 (Option.none : Option Jvm.ClassFile.FieldType) ∈ wt := wt_in (List.mem_of_getElem? (i := 315) (by decide +kernel)) rfl
def y_b_kind : MethodName := ⟨"BottleReturn", "kind", "(IIIIIII)I"⟩
abbrev c_b_kind : ByteArray := prog_1_method_3_code
theorem w_b_kind : Cond.code y_b_kind c_b_kind 9 (some FieldType.int) ∈ wt := wt_in (List.mem_of_getElem? (i := 413) (by decide +kernel)) rfl
def y_b_enter : MethodName := ⟨"BottleReturn", "enter", "(I)I"⟩
abbrev c_b_enter : ByteArray := prog_1_method_4_code
theorem w_b_enter : Cond.code y_b_enter c_b_enter 2 (some FieldType.int) ∈ wt := wt_in (List.mem_of_getElem? (i := 437) (by decide +kernel)) rfl
def y_b_code : MethodName := ⟨"BottleReturn", "code", "(I)Z"⟩
abbrev c_b_code : ByteArray := prog_1_method_5_code
theorem w_b_code : Cond.code y_b_code c_b_code 3 (some FieldType.boolean) ∈ wt := wt_in (List.mem_of_getElem? (i := 454) (by decide +kernel)) rfl
def y_b_width : MethodName := ⟨"BottleReturn", "width", "(I)Z"⟩
abbrev c_b_width : ByteArray := prog_1_method_6_code
theorem w_b_width : Cond.code y_b_width c_b_width 3 (some FieldType.boolean) ∈ wt := wt_in (List.mem_of_getElem? (i := 478) (by decide +kernel)) rfl
def y_b_weigh : MethodName := ⟨"BottleReturn", "weigh", "(I)Z"⟩
abbrev c_b_weigh : ByteArray := prog_1_method_7_code
theorem w_b_weigh : Cond.code y_b_weigh c_b_weigh 3 (some FieldType.boolean) ∈ wt := wt_in (List.mem_of_getElem? (i := 485) (by decide +kernel)) rfl
def y_b_forward : MethodName := ⟨"BottleReturn", "forward", "(I)I"⟩
abbrev c_b_forward : ByteArray := prog_1_method_8_code
theorem w_b_forward : Cond.code y_b_forward c_b_forward 3 (some FieldType.int) ∈ wt := wt_in (List.mem_of_getElem? (i := 492) (by decide +kernel)) rfl
def y_b_back : MethodName := ⟨"BottleReturn", "back", "(I)I"⟩
abbrev c_b_back : ByteArray := prog_1_method_9_code
theorem w_b_back : Cond.code y_b_back c_b_back 4 (some FieldType.int) ∈ wt := wt_in (List.mem_of_getElem? (i := 576) (by decide +kernel)) rfl
def y_b_voucher : MethodName := ⟨"BottleReturn", "voucher", "()I"⟩
abbrev c_b_voucher : ByteArray := prog_1_method_10_code
theorem w_b_voucher : Cond.code y_b_voucher c_b_voucher 2 (some FieldType.int) ∈ wt := wt_in (List.mem_of_getElem? (i := 592) (by decide +kernel)) rfl
def y_b_give : MethodName := ⟨"BottleReturn", "give", "()I"⟩
abbrev c_b_give : ByteArray := prog_1_method_11_code
theorem w_b_give : Cond.code y_b_give c_b_give 2 (some FieldType.int) ∈ wt := wt_in (List.mem_of_getElem? (i := 607) (by decide +kernel)) rfl
def y_b_redeem : MethodName := ⟨"BottleReturn", "redeem", "(I)I"⟩
abbrev c_b_redeem : ByteArray := prog_1_method_12_code
theorem w_b_redeem : Cond.code y_b_redeem c_b_redeem 3 (some FieldType.int) ∈ wt := wt_in (List.mem_of_getElem? (i := 614) (by decide +kernel)) rfl
def y_b_clear : MethodName := ⟨"BottleReturn", "clear", "()I"⟩
abbrev c_b_clear : ByteArray := prog_1_method_13_code
theorem w_b_clear : Cond.code y_b_clear c_b_clear 1 (some FieldType.int) ∈ wt := wt_in (List.mem_of_getElem? (i := 629) (by decide +kernel)) rfl
def y_b_empty : MethodName := ⟨"BottleReturn", "empty", "(II)I"⟩
abbrev c_b_empty : ByteArray := prog_1_method_14_code
theorem w_b_empty : Cond.code y_b_empty c_b_empty 4 (some FieldType.int) ∈ wt := wt_in (List.mem_of_getElem? (i := 640) (by decide +kernel)) rfl
def y_b_service : MethodName := ⟨"BottleReturn", "service", "()Z"⟩
abbrev c_b_service : ByteArray := prog_1_method_15_code
theorem w_b_service : Cond.code y_b_service c_b_service 2 (some FieldType.boolean) ∈ wt := wt_in (List.mem_of_getElem? (i := 647) (by decide +kernel)) rfl
def y_b_cut : MethodName := ⟨"BottleReturn", "cut", "(I)V"⟩
abbrev c_b_cut : ByteArray := prog_1_method_16_code
theorem w_b_cut : Cond.code y_b_cut c_b_cut 2 (Option.none : Option Jvm.ClassFile.FieldType) ∈ wt := wt_in (List.mem_of_getElem? (i := 654) (by decide +kernel)) rfl
def y_b_power : MethodName := ⟨"BottleReturn", "power", "()I"⟩
abbrev c_b_power : ByteArray := prog_1_method_17_code
theorem w_b_power : Cond.code y_b_power c_b_power 2 (some FieldType.int) ∈ wt := wt_in (List.mem_of_getElem? (i := 263) (by decide +kernel)) rfl
def y_b_check : MethodName := ⟨"BottleReturn", "check", "(II)Z"⟩
abbrev c_b_check : ByteArray := prog_1_method_18_code
theorem w_b_check : Cond.code y_b_check c_b_check 5 (some FieldType.boolean) ∈ wt := wt_in (List.mem_of_getElem? (i := 661) (by decide +kernel)) rfl
def y_b_about : MethodName := ⟨"BottleReturn", "about", "(II)I"⟩
abbrev c_b_about : ByteArray := prog_1_method_19_code
theorem w_b_about : Cond.code y_b_about c_b_about 4 (some FieldType.int) ∈ wt := wt_in (List.mem_of_getElem? (i := 671) (by decide +kernel)) rfl
def y_b_container : MethodName := ⟨"BottleReturn", "container", "(II)I"⟩
abbrev c_b_container : ByteArray := prog_1_method_20_code
theorem w_b_container : Cond.code y_b_container c_b_container 4 (some FieldType.int) ∈ wt := wt_in (List.mem_of_getElem? (i := 692) (by decide +kernel)) rfl
def y_b_belt : MethodName := ⟨"BottleReturn", "belt", "(I)I"⟩
abbrev c_b_belt : ByteArray := prog_1_method_21_code
theorem w_b_belt : Cond.code y_b_belt c_b_belt 2 (some FieldType.int) ∈ wt := wt_in (List.mem_of_getElem? (i := 303) (by decide +kernel)) rfl
def y_b_bin : MethodName := ⟨"BottleReturn", "bin", "(II)I"⟩
abbrev c_b_bin : ByteArray := prog_1_method_22_code
theorem w_b_bin : Cond.code y_b_bin c_b_bin 3 (some FieldType.int) ∈ wt := wt_in (List.mem_of_getElem? (i := 703) (by decide +kernel)) rfl
def y_b_total : MethodName := ⟨"BottleReturn", "total", "(I)I"⟩
abbrev c_b_total : ByteArray := prog_1_method_23_code
theorem w_b_total : Cond.code y_b_total c_b_total 2 (some FieldType.int) ∈ wt := wt_in (List.mem_of_getElem? (i := 710) (by decide +kernel)) rfl
def y_b_requireOn : MethodName := ⟨"BottleReturn", "requireOn", "()V"⟩
abbrev c_b_requireOn : ByteArray := prog_1_method_24_code
theorem w_b_requireOn : Cond.code y_b_requireOn c_b_requireOn 1 (Option.none : Option Jvm.ClassFile.FieldType) ∈ wt := wt_in (List.mem_of_getElem? (i := 319) (by decide +kernel)) rfl
def y_b_requireEmptyBelt : MethodName := ⟨"BottleReturn", "requireEmptyBelt", "()V"⟩
abbrev c_b_requireEmptyBelt : ByteArray := prog_1_method_25_code
theorem w_b_requireEmptyBelt : Cond.code y_b_requireEmptyBelt c_b_requireEmptyBelt 1 (Option.none : Option Jvm.ClassFile.FieldType) ∈ wt := wt_in (List.mem_of_getElem? (i := 417) (by decide +kernel)) rfl
def y_b_require : MethodName := ⟨"BottleReturn", "require", "(Z)V"⟩
abbrev c_b_require : ByteArray := prog_1_method_26_code
theorem w_b_require : Cond.code y_b_require c_b_require 1 (Option.none : Option Jvm.ClassFile.FieldType) ∈ wt := wt_in (List.mem_of_getElem? (i := 384) (by decide +kernel)) rfl
def y_b_isIndex : MethodName := ⟨"BottleReturn", "isIndex", "(II)Z"⟩
abbrev c_b_isIndex : ByteArray := prog_1_method_27_code
theorem w_b_isIndex : Cond.code y_b_isIndex c_b_isIndex 2 (some FieldType.boolean) ∈ wt := wt_in (List.mem_of_getElem? (i := 306) (by decide +kernel)) rfl
def y_b_isWithin : MethodName := ⟨"BottleReturn", "isWithin", "(III)Z"⟩
abbrev c_b_isWithin : ByteArray := prog_1_method_28_code
theorem w_b_isWithin : Cond.code y_b_isWithin c_b_isWithin 3 (some FieldType.boolean) ∈ wt := wt_in (List.mem_of_getElem? (i := 402) (by decide +kernel)) rfl
def y_b_asNumber : MethodName := ⟨"BottleReturn", "asNumber", "(Z)I"⟩
abbrev c_b_asNumber : ByteArray := prog_1_method_29_code
theorem w_b_asNumber : Cond.code y_b_asNumber c_b_asNumber 1 (some FieldType.int) ∈ wt := wt_in (List.mem_of_getElem? (i := 685) (by decide +kernel)) rfl
def y_b_isSuspicious : MethodName := ⟨"BottleReturn", "isSuspicious", "()Z"⟩
abbrev c_b_isSuspicious : ByteArray := prog_1_method_30_code
theorem w_b_isSuspicious : Cond.code y_b_isSuspicious c_b_isSuspicious 1 (some FieldType.boolean) ∈ wt := wt_in (List.mem_of_getElem? (i := 554) (by decide +kernel)) rfl
def y_b_stepForward : MethodName := ⟨"BottleReturn", "stepForward", "()V"⟩
abbrev c_b_stepForward : ByteArray := prog_1_method_31_code
theorem w_b_stepForward : Cond.code y_b_stepForward c_b_stepForward 3 (Option.none : Option Jvm.ClassFile.FieldType) ∈ wt := wt_in (List.mem_of_getElem? (i := 500) (by decide +kernel)) rfl
def y_b_leavesOnArrival : MethodName := ⟨"BottleReturn", "leavesOnArrival", "(I)Z"⟩
abbrev c_b_leavesOnArrival : ByteArray := prog_1_method_32_code
theorem w_b_leavesOnArrival : Cond.code y_b_leavesOnArrival c_b_leavesOnArrival 3 (some FieldType.boolean) ∈ wt := wt_in (List.mem_of_getElem? (i := 508) (by decide +kernel)) rfl
def y_b_judge : MethodName := ⟨"BottleReturn", "judge", "(LBottleReturn$Container;)V"⟩
abbrev c_b_judge : ByteArray := prog_1_method_33_code
theorem w_b_judge : Cond.code y_b_judge c_b_judge 4 (Option.none : Option Jvm.ClassFile.FieldType) ∈ wt := wt_in (List.mem_of_getElem? (i := 512) (by decide +kernel)) rfl
def y_b_judgementByReadings : MethodName := ⟨"BottleReturn", "judgementByReadings", "(LBottleReturn$Container;I)I"⟩
abbrev c_b_judgementByReadings : ByteArray := prog_1_method_34_code
theorem w_b_judgementByReadings : Cond.code y_b_judgementByReadings c_b_judgementByReadings 3 (some FieldType.int) ∈ wt := wt_in (List.mem_of_getElem? (i := 521) (by decide +kernel)) rfl
def y_b_judgementByState : MethodName := ⟨"BottleReturn", "judgementByState", "(LBottleReturn$Container;I)I"⟩
abbrev c_b_judgementByState : ByteArray := prog_1_method_35_code
theorem w_b_judgementByState : Cond.code y_b_judgementByState c_b_judgementByState 4 (some FieldType.int) ∈ wt := wt_in (List.mem_of_getElem? (i := 542) (by decide +kernel)) rfl
def y_b_acceptedFor : MethodName := ⟨"BottleReturn", "acceptedFor", "(I)I"⟩
abbrev c_b_acceptedFor : ByteArray := prog_1_method_36_code
theorem w_b_acceptedFor : Cond.code y_b_acceptedFor c_b_acceptedFor 5 (some FieldType.int) ∈ wt := wt_in (List.mem_of_getElem? (i := 546) (by decide +kernel)) rfl
def y_b_pay : MethodName := ⟨"BottleReturn", "pay", "(LBottleReturn$Container;)V"⟩
abbrev c_b_pay : ByteArray := prog_1_method_37_code
theorem w_b_pay : Cond.code y_b_pay c_b_pay 3 (Option.none : Option Jvm.ClassFile.FieldType) ∈ wt := wt_in (List.mem_of_getElem? (i := 279) (by decide +kernel)) rfl
def y_b_intoBin : MethodName := ⟨"BottleReturn", "intoBin", "(I)Z"⟩
abbrev c_b_intoBin : ByteArray := prog_1_method_38_code
theorem w_b_intoBin : Cond.code y_b_intoBin c_b_intoBin 3 (some FieldType.boolean) ∈ wt := wt_in (List.mem_of_getElem? (i := 295) (by decide +kernel)) rfl
def y_b_payUnpaid : MethodName := ⟨"BottleReturn", "payUnpaid", "()V"⟩
abbrev c_b_payUnpaid : ByteArray := prog_1_method_39_code
theorem w_b_payUnpaid : Cond.code y_b_payUnpaid c_b_payUnpaid 3 (Option.none : Option Jvm.ClassFile.FieldType) ∈ wt := wt_in (List.mem_of_getElem? (i := 275) (by decide +kernel)) rfl
def y_b_binWaiting : MethodName := ⟨"BottleReturn", "binWaiting", "()V"⟩
abbrev c_b_binWaiting : ByteArray := prog_1_method_40_code
theorem w_b_binWaiting : Cond.code y_b_binWaiting c_b_binWaiting 4 (Option.none : Option Jvm.ClassFile.FieldType) ∈ wt := wt_in (List.mem_of_getElem? (i := 287) (by decide +kernel)) rfl
def y_m_init : MethodName := ⟨"BottleReturnModel", "<init>", "()V"⟩
abbrev c_m_init : ByteArray := prog_11_method_1_code
theorem w_m_init : Cond.code y_m_init c_m_init 2 (Option.none : Option Jvm.ClassFile.FieldType) ∈ wt := wt_in (List.mem_of_getElem? (i := 715) (by decide +kernel)) rfl
def y_m_thrown : MethodName := ⟨"BottleReturnModel", "thrown", "()I"⟩
abbrev c_m_thrown : ByteArray := prog_11_method_2_code
theorem w_m_thrown : Cond.code y_m_thrown c_m_thrown 1 (some FieldType.int) ∈ wt := wt_in (List.mem_of_getElem? (i := 799) (by decide +kernel)) rfl
def y_m_fails : MethodName := ⟨"BottleReturnModel", "fails", "(ZI)Z"⟩
abbrev c_m_fails : ByteArray := prog_11_method_3_code
theorem w_m_fails : Cond.code y_m_fails c_m_fails 3 (some FieldType.boolean) ∈ wt := wt_in (List.mem_of_getElem? (i := 807) (by decide +kernel)) rfl
def y_m_within : MethodName := ⟨"BottleReturnModel", "within", "(III)Z"⟩
abbrev c_m_within : ByteArray := prog_11_method_4_code
theorem w_m_within : Cond.code y_m_within c_m_within 3 (some FieldType.boolean) ∈ wt := wt_in (List.mem_of_getElem? (i := 810) (by decide +kernel)) rfl
def y_m_get : MethodName := ⟨"BottleReturnModel", "get", "(II)I"⟩
abbrev c_m_get : ByteArray := prog_11_method_5_code
theorem w_m_get : Cond.code y_m_get c_m_get 3 (some FieldType.int) ∈ wt := wt_in (List.mem_of_getElem? (i := 831) (by decide +kernel)) rfl
def y_m_put : MethodName := ⟨"BottleReturnModel", "put", "(III)V"⟩
abbrev c_m_put : ByteArray := prog_11_method_6_code
theorem w_m_put : Cond.code y_m_put c_m_put 4 (Option.none : Option Jvm.ClassFile.FieldType) ∈ wt := wt_in (List.mem_of_getElem? (i := 835) (by decide +kernel)) rfl
def y_m_rear : MethodName := ⟨"BottleReturnModel", "rear", "(I)I"⟩
abbrev c_m_rear : ByteArray := prog_11_method_7_code
theorem w_m_rear : Cond.code y_m_rear c_m_rear 2 (some FieldType.int) ∈ wt := wt_in (List.mem_of_getElem? (i := 827) (by decide +kernel)) rfl
def y_m_remove : MethodName := ⟨"BottleReturnModel", "remove", "(I)V"⟩
abbrev c_m_remove : ByteArray := prog_11_method_8_code
theorem w_m_remove : Cond.code y_m_remove c_m_remove 3 (Option.none : Option Jvm.ClassFile.FieldType) ∈ wt := wt_in (List.mem_of_getElem? (i := 887) (by decide +kernel)) rfl
def y_m_find : MethodName := ⟨"BottleReturnModel", "find", "(I)I"⟩
abbrev c_m_find : ByteArray := prog_11_method_9_code
theorem w_m_find : Cond.code y_m_find c_m_find 3 (some FieldType.int) ∈ wt := wt_in (List.mem_of_getElem? (i := 955) (by decide +kernel)) rfl
def y_m_contour : MethodName := ⟨"BottleReturnModel", "contour", "(IIII)V"⟩
abbrev c_m_contour : ByteArray := prog_11_method_10_code
theorem w_m_contour : Cond.code y_m_contour c_m_contour 6 (Option.none : Option Jvm.ClassFile.FieldType) ∈ wt := wt_in (List.mem_of_getElem? (i := 803) (by decide +kernel)) rfl
def y_m_kindOf : MethodName := ⟨"BottleReturnModel", "kindOf", "(I)I"⟩
abbrev c_m_kindOf : ByteArray := prog_11_method_11_code
theorem w_m_kindOf : Cond.code y_m_kindOf c_m_kindOf 3 (some FieldType.int) ∈ wt := wt_in (List.mem_of_getElem? (i := 819) (by decide +kernel)) rfl
def y_m_kind : MethodName := ⟨"BottleReturnModel", "kind", "(IIIIIII)I"⟩
abbrev c_m_kind : ByteArray := prog_11_method_12_code
theorem w_m_kind : Cond.code y_m_kind c_m_kind 11 (some FieldType.int) ∈ wt := wt_in (List.mem_of_getElem? (i := 814) (by decide +kernel)) rfl
def y_m_enter : MethodName := ⟨"BottleReturnModel", "enter", "(I)I"⟩
abbrev c_m_enter : ByteArray := prog_11_method_13_code
theorem w_m_enter : Cond.code y_m_enter c_m_enter 3 (some FieldType.int) ∈ wt := wt_in (List.mem_of_getElem? (i := 823) (by decide +kernel)) rfl
def y_m_over : MethodName := ⟨"BottleReturnModel", "over", "(I)I"⟩
abbrev c_m_over : ByteArray := prog_11_method_14_code
theorem w_m_over : Cond.code y_m_over c_m_over 3 (some FieldType.int) ∈ wt := wt_in (List.mem_of_getElem? (i := 843) (by decide +kernel)) rfl
def y_m_code : MethodName := ⟨"BottleReturnModel", "code", "(I)Z"⟩
abbrev c_m_code : ByteArray := prog_11_method_15_code
theorem w_m_code : Cond.code y_m_code c_m_code 3 (some FieldType.boolean) ∈ wt := wt_in (List.mem_of_getElem? (i := 839) (by decide +kernel)) rfl
def y_m_width : MethodName := ⟨"BottleReturnModel", "width", "(I)Z"⟩
abbrev c_m_width : ByteArray := prog_11_method_16_code
theorem w_m_width : Cond.code y_m_width c_m_width 3 (some FieldType.boolean) ∈ wt := wt_in (List.mem_of_getElem? (i := 847) (by decide +kernel)) rfl
def y_m_weigh : MethodName := ⟨"BottleReturnModel", "weigh", "(I)Z"⟩
abbrev c_m_weigh : ByteArray := prog_11_method_17_code
theorem w_m_weigh : Cond.code y_m_weigh c_m_weigh 3 (some FieldType.boolean) ∈ wt := wt_in (List.mem_of_getElem? (i := 851) (by decide +kernel)) rfl
def y_m_writes : MethodName := ⟨"BottleReturnModel", "writes", "()Z"⟩
abbrev c_m_writes : ByteArray := prog_11_method_18_code
theorem w_m_writes : Cond.code y_m_writes c_m_writes 1 (some FieldType.boolean) ∈ wt := wt_in (List.mem_of_getElem? (i := 875) (by decide +kernel)) rfl
def y_m_isBlocked : MethodName := ⟨"BottleReturnModel", "isBlocked", "()Z"⟩
abbrev c_m_isBlocked : ByteArray := prog_11_method_19_code
theorem w_m_isBlocked : Cond.code y_m_isBlocked c_m_isBlocked 2 (some FieldType.boolean) ∈ wt := wt_in (List.mem_of_getElem? (i := 859) (by decide +kernel)) rfl
def y_m_isSuspicious : MethodName := ⟨"BottleReturnModel", "isSuspicious", "()Z"⟩
abbrev c_m_isSuspicious : ByteArray := prog_11_method_20_code
theorem w_m_isSuspicious : Cond.code y_m_isSuspicious c_m_isSuspicious 1 (some FieldType.boolean) ∈ wt := wt_in (List.mem_of_getElem? (i := 871) (by decide +kernel)) rfl
def y_m_against : MethodName := ⟨"BottleReturnModel", "against", "(I)I"⟩
abbrev c_m_against : ByteArray := prog_11_method_21_code
theorem w_m_against : Cond.code y_m_against c_m_against 9 (some FieldType.int) ∈ wt := wt_in (List.mem_of_getElem? (i := 867) (by decide +kernel)) rfl
def y_m_judge : MethodName := ⟨"BottleReturnModel", "judge", "(I)V"⟩
abbrev c_m_judge : ByteArray := prog_11_method_22_code
theorem w_m_judge : Cond.code y_m_judge c_m_judge 4 (Option.none : Option Jvm.ClassFile.FieldType) ∈ wt := wt_in (List.mem_of_getElem? (i := 863) (by decide +kernel)) rfl
def y_m_pay : MethodName := ⟨"BottleReturnModel", "pay", "(I)V"⟩
abbrev c_m_pay : ByteArray := prog_11_method_23_code
theorem w_m_pay : Cond.code y_m_pay c_m_pay 3 (Option.none : Option Jvm.ClassFile.FieldType) ∈ wt := wt_in (List.mem_of_getElem? (i := 879) (by decide +kernel)) rfl
def y_m_drop : MethodName := ⟨"BottleReturnModel", "drop", "(I)Z"⟩
abbrev c_m_drop : ByteArray := prog_11_method_24_code
theorem w_m_drop : Cond.code y_m_drop c_m_drop 2 (some FieldType.boolean) ∈ wt := wt_in (List.mem_of_getElem? (i := 883) (by decide +kernel)) rfl
def y_m_forward : MethodName := ⟨"BottleReturnModel", "forward", "(I)I"⟩
abbrev c_m_forward : ByteArray := prog_11_method_25_code
theorem w_m_forward : Cond.code y_m_forward c_m_forward 5 (some FieldType.int) ∈ wt := wt_in (List.mem_of_getElem? (i := 855) (by decide +kernel)) rfl
def y_m_forget : MethodName := ⟨"BottleReturnModel", "forget", "(I)V"⟩
abbrev c_m_forget : ByteArray := prog_11_method_26_code
theorem w_m_forget : Cond.code y_m_forget c_m_forget 2 (Option.none : Option Jvm.ClassFile.FieldType) ∈ wt := wt_in (List.mem_of_getElem? (i := 895) (by decide +kernel)) rfl
def y_m_back : MethodName := ⟨"BottleReturnModel", "back", "(I)I"⟩
abbrev c_m_back : ByteArray := prog_11_method_27_code
theorem w_m_back : Cond.code y_m_back c_m_back 6 (some FieldType.int) ∈ wt := wt_in (List.mem_of_getElem? (i := 891) (by decide +kernel)) rfl
def y_m_voucher : MethodName := ⟨"BottleReturnModel", "voucher", "()I"⟩
abbrev c_m_voucher : ByteArray := prog_11_method_28_code
theorem w_m_voucher : Cond.code y_m_voucher c_m_voucher 1 (some FieldType.int) ∈ wt := wt_in (List.mem_of_getElem? (i := 899) (by decide +kernel)) rfl
def y_m_give : MethodName := ⟨"BottleReturnModel", "give", "()I"⟩
abbrev c_m_give : ByteArray := prog_11_method_29_code
theorem w_m_give : Cond.code y_m_give c_m_give 2 (some FieldType.int) ∈ wt := wt_in (List.mem_of_getElem? (i := 903) (by decide +kernel)) rfl
def y_m_voucherAt : MethodName := ⟨"BottleReturnModel", "voucherAt", "(I)I"⟩
abbrev c_m_voucherAt : ByteArray := prog_11_method_30_code
theorem w_m_voucherAt : Cond.code y_m_voucherAt c_m_voucherAt 3 (some FieldType.int) ∈ wt := wt_in (List.mem_of_getElem? (i := 911) (by decide +kernel)) rfl
def y_m_redeem : MethodName := ⟨"BottleReturnModel", "redeem", "(I)I"⟩
abbrev c_m_redeem : ByteArray := prog_11_method_31_code
theorem w_m_redeem : Cond.code y_m_redeem c_m_redeem 3 (some FieldType.int) ∈ wt := wt_in (List.mem_of_getElem? (i := 907) (by decide +kernel)) rfl
def y_m_clear : MethodName := ⟨"BottleReturnModel", "clear", "()I"⟩
abbrev c_m_clear : ByteArray := prog_11_method_32_code
theorem w_m_clear : Cond.code y_m_clear c_m_clear 3 (some FieldType.int) ∈ wt := wt_in (List.mem_of_getElem? (i := 915) (by decide +kernel)) rfl
def y_m_empty : MethodName := ⟨"BottleReturnModel", "empty", "(II)I"⟩
abbrev c_m_empty : ByteArray := prog_11_method_33_code
theorem w_m_empty : Cond.code y_m_empty c_m_empty 4 (some FieldType.int) ∈ wt := wt_in (List.mem_of_getElem? (i := 919) (by decide +kernel)) rfl
def y_m_service : MethodName := ⟨"BottleReturnModel", "service", "()Z"⟩
abbrev c_m_service : ByteArray := prog_11_method_34_code
theorem w_m_service : Cond.code y_m_service c_m_service 2 (some FieldType.boolean) ∈ wt := wt_in (List.mem_of_getElem? (i := 923) (by decide +kernel)) rfl
def y_m_cut : MethodName := ⟨"BottleReturnModel", "cut", "(I)V"⟩
abbrev c_m_cut : ByteArray := prog_11_method_35_code
theorem w_m_cut : Cond.code y_m_cut c_m_cut 2 (Option.none : Option Jvm.ClassFile.FieldType) ∈ wt := wt_in (List.mem_of_getElem? (i := 927) (by decide +kernel)) rfl
def y_m_power : MethodName := ⟨"BottleReturnModel", "power", "()I"⟩
abbrev c_m_power : ByteArray := prog_11_method_36_code
theorem w_m_power : Cond.code y_m_power c_m_power 4 (some FieldType.int) ∈ wt := wt_in (List.mem_of_getElem? (i := 931) (by decide +kernel)) rfl
def y_m_rest : MethodName := ⟨"BottleReturnModel", "rest", "(III)I"⟩
abbrev c_m_rest : ByteArray := prog_11_method_37_code
theorem w_m_rest : Cond.code y_m_rest c_m_rest 6 (some FieldType.int) ∈ wt := wt_in (List.mem_of_getElem? (i := 939) (by decide +kernel)) rfl
def y_m_endOf : MethodName := ⟨"BottleReturnModel", "endOf", "(I)I"⟩
abbrev c_m_endOf : ByteArray := prog_11_method_38_code
theorem w_m_endOf : Cond.code y_m_endOf c_m_endOf 2 (some FieldType.int) ∈ wt := wt_in (List.mem_of_getElem? (i := 947) (by decide +kernel)) rfl
def y_m_check : MethodName := ⟨"BottleReturnModel", "check", "(II)Z"⟩
abbrev c_m_check : ByteArray := prog_11_method_39_code
theorem w_m_check : Cond.code y_m_check c_m_check 3 (some FieldType.boolean) ∈ wt := wt_in (List.mem_of_getElem? (i := 935) (by decide +kernel)) rfl
def y_m_about : MethodName := ⟨"BottleReturnModel", "about", "(II)I"⟩
abbrev c_m_about : ByteArray := prog_11_method_40_code
theorem w_m_about : Cond.code y_m_about c_m_about 4 (some FieldType.int) ∈ wt := wt_in (List.mem_of_getElem? (i := 943) (by decide +kernel)) rfl
def y_m_container : MethodName := ⟨"BottleReturnModel", "container", "(II)I"⟩
abbrev c_m_container : ByteArray := prog_11_method_41_code
theorem w_m_container : Cond.code y_m_container c_m_container 4 (some FieldType.int) ∈ wt := wt_in (List.mem_of_getElem? (i := 951) (by decide +kernel)) rfl
def y_m_belt : MethodName := ⟨"BottleReturnModel", "belt", "(I)I"⟩
abbrev c_m_belt : ByteArray := prog_11_method_42_code
theorem w_m_belt : Cond.code y_m_belt c_m_belt 2 (some FieldType.int) ∈ wt := wt_in (List.mem_of_getElem? (i := 959) (by decide +kernel)) rfl
def y_m_bin : MethodName := ⟨"BottleReturnModel", "bin", "(II)I"⟩
abbrev c_m_bin : ByteArray := prog_11_method_43_code
theorem w_m_bin : Cond.code y_m_bin c_m_bin 3 (some FieldType.int) ∈ wt := wt_in (List.mem_of_getElem? (i := 963) (by decide +kernel)) rfl
def y_m_total : MethodName := ⟨"BottleReturnModel", "total", "(I)I"⟩
abbrev c_m_total : ByteArray := prog_11_method_44_code
theorem w_m_total : Cond.code y_m_total c_m_total 2 (some FieldType.int) ∈ wt := wt_in (List.mem_of_getElem? (i := 967) (by decide +kernel)) rfl
def y_be_init : MethodName := ⟨"BottleReturn$Belt", "<init>", "()V"⟩
abbrev c_be_init : ByteArray := prog_2_method_1_code
theorem w_be_init : Cond.code y_be_init c_be_init 2 (Option.none : Option Jvm.ClassFile.FieldType) ∈ wt := wt_in (List.mem_of_getElem? (i := 66) (by decide +kernel)) rfl
def y_be_putIn : MethodName := ⟨"BottleReturn$Belt", "putIn", "(I)I"⟩
abbrev c_be_putIn : ByteArray := prog_2_method_2_code
theorem w_be_putIn : Cond.code y_be_putIn c_be_putIn 2 (some FieldType.int) ∈ wt := wt_in (List.mem_of_getElem? (i := 441) (by decide +kernel)) rfl
def y_be_takeOff : MethodName := ⟨"BottleReturn$Belt", "takeOff", "(I)V"⟩
abbrev c_be_takeOff : ByteArray := prog_2_method_3_code
theorem w_be_takeOff : Cond.code y_be_takeOff c_be_takeOff 4 (Option.none : Option Jvm.ClassFile.FieldType) ∈ wt := wt_in (List.mem_of_getElem? (i := 299) (by decide +kernel)) rfl
def y_be_over : MethodName := ⟨"BottleReturn$Belt", "over", "(I)LBottleReturn$Container;"⟩
abbrev c_be_over : ByteArray := prog_2_method_4_code
theorem w_be_over : Cond.code y_be_over c_be_over 3 (Option.some (Jvm.ClassFile.FieldType.object "BottleReturn$Container")) ∈ wt := wt_in (List.mem_of_getElem? (i := 458) (by decide +kernel)) rfl
def y_be_withNumber : MethodName := ⟨"BottleReturn$Belt", "withNumber", "(I)LBottleReturn$Container;"⟩
abbrev c_be_withNumber : ByteArray := prog_2_method_5_code
theorem w_be_withNumber : Cond.code y_be_withNumber c_be_withNumber 3 (Option.some (Jvm.ClassFile.FieldType.object "BottleReturn$Container")) ∈ wt := wt_in (List.mem_of_getElem? (i := 696) (by decide +kernel)) rfl
def y_be_isBlocked : MethodName := ⟨"BottleReturn$Belt", "isBlocked", "()Z"⟩
abbrev c_be_isBlocked : ByteArray := prog_2_method_6_code
theorem w_be_isBlocked : Cond.code y_be_isBlocked c_be_isBlocked 2 (some FieldType.boolean) ∈ wt := wt_in (List.mem_of_getElem? (i := 496) (by decide +kernel)) rfl
def y_be_moveUp : MethodName := ⟨"BottleReturn$Belt", "moveUp", "()V"⟩
abbrev c_be_moveUp : ByteArray := prog_2_method_7_code
theorem w_be_moveUp : Cond.code y_be_moveUp c_be_moveUp 2 (Option.none : Option Jvm.ClassFile.FieldType) ∈ wt := wt_in (List.mem_of_getElem? (i := 504) (by decide +kernel)) rfl
def y_be_moveDown : MethodName := ⟨"BottleReturn$Belt", "moveDown", "()Z"⟩
abbrev c_be_moveDown : ByteArray := prog_2_method_8_code
theorem w_be_moveDown : Cond.code y_be_moveDown c_be_moveDown 3 (some FieldType.boolean) ∈ wt := wt_in (List.mem_of_getElem? (i := 580) (by decide +kernel)) rfl
def y_be_moveDownAt : MethodName := ⟨"BottleReturn$Belt", "moveDownAt", "(I)V"⟩
abbrev c_be_moveDownAt : ByteArray := prog_2_method_9_code
theorem w_be_moveDownAt : Cond.code y_be_moveDownAt c_be_moveDownAt 3 (Option.none : Option Jvm.ClassFile.FieldType) ∈ wt := wt_in (List.mem_of_getElem? (i := 584) (by decide +kernel)) rfl
def y_be_forgetBefore : MethodName := ⟨"BottleReturn$Belt", "forgetBefore", "(I)V"⟩
abbrev c_be_forgetBefore : ByteArray := prog_2_method_10_code
theorem w_be_forgetBefore : Cond.code y_be_forgetBefore c_be_forgetBefore 3 (Option.none : Option Jvm.ClassFile.FieldType) ∈ wt := wt_in (List.mem_of_getElem? (i := 267) (by decide +kernel)) rfl
def y_bi_init : MethodName := ⟨"BottleReturn$Bins", "<init>", "()V"⟩
abbrev c_bi_init : ByteArray := prog_3_method_1_code
theorem w_bi_init : Cond.code y_bi_init c_bi_init 2 (Option.none : Option Jvm.ClassFile.FieldType) ∈ wt := wt_in (List.mem_of_getElem? (i := 150) (by decide +kernel)) rfl
def y_ca_init : MethodName := ⟨"BottleReturn$Catalogue", "<init>", "()V"⟩
abbrev c_ca_init : ByteArray := prog_4_method_1_code
theorem w_ca_init : Cond.code y_ca_init c_ca_init 1 (Option.none : Option Jvm.ClassFile.FieldType) ∈ wt := wt_in (List.mem_of_getElem? (i := 30) (by decide +kernel)) rfl
def y_ca_setContour : MethodName := ⟨"BottleReturn$Catalogue", "setContour", "(IIII)V"⟩
abbrev c_ca_setContour : ByteArray := prog_4_method_2_code
theorem w_ca_setContour : Cond.code y_ca_setContour c_ca_setContour 7 (Option.none : Option Jvm.ClassFile.FieldType) ∈ wt := wt_in (List.mem_of_getElem? (i := 406) (by decide +kernel)) rfl
def y_ca_setKind : MethodName := ⟨"BottleReturn$Catalogue", "setKind", "(IIIIIII)V"⟩
abbrev c_ca_setKind : ByteArray := prog_4_method_3_code
theorem w_ca_setKind : Cond.code y_ca_setKind c_ca_setKind 8 (Option.none : Option Jvm.ClassFile.FieldType) ∈ wt := wt_in (List.mem_of_getElem? (i := 430) (by decide +kernel)) rfl
def y_ca_dropCode : MethodName := ⟨"BottleReturn$Catalogue", "dropCode", "(I)V"⟩
abbrev c_ca_dropCode : ByteArray := prog_4_method_4_code
theorem w_ca_dropCode : Cond.code y_ca_dropCode c_ca_dropCode 2 (Option.none : Option Jvm.ClassFile.FieldType) ∈ wt := wt_in (List.mem_of_getElem? (i := 426) (by decide +kernel)) rfl
def y_ca_kindWith : MethodName := ⟨"BottleReturn$Catalogue", "kindWith", "(I)I"⟩
abbrev c_ca_kindWith : ByteArray := prog_4_method_5_code
theorem w_ca_kindWith : Cond.code y_ca_kindWith c_ca_kindWith 3 (some FieldType.int) ∈ wt := wt_in (List.mem_of_getElem? (i := 422) (by decide +kernel)) rfl
def y_ca_kindOf : MethodName := ⟨"BottleReturn$Catalogue", "kindOf", "(LBottleReturn$Container;)I"⟩
abbrev c_ca_kindOf : ByteArray := prog_4_method_6_code
theorem w_ca_kindOf : Cond.code y_ca_kindOf c_ca_kindOf 2 (some FieldType.int) ∈ wt := wt_in (List.mem_of_getElem? (i := 516) (by decide +kernel)) rfl
def y_ca_allowsWeight : MethodName := ⟨"BottleReturn$Catalogue", "allowsWeight", "(II)Z"⟩
abbrev c_ca_allowsWeight : ByteArray := prog_4_method_7_code
theorem w_ca_allowsWeight : Cond.code y_ca_allowsWeight c_ca_allowsWeight 3 (some FieldType.boolean) ∈ wt := wt_in (List.mem_of_getElem? (i := 529) (by decide +kernel)) rfl
def y_ca_allowsWidths : MethodName := ⟨"BottleReturn$Catalogue", "allowsWidths", "(ILBottleReturn$Row;)Z"⟩
abbrev c_ca_allowsWidths : ByteArray := prog_4_method_8_code
theorem w_ca_allowsWidths : Cond.code y_ca_allowsWidths c_ca_allowsWidths 6 (some FieldType.boolean) ∈ wt := wt_in (List.mem_of_getElem? (i := 534) (by decide +kernel)) rfl
def y_co_init : MethodName := ⟨"BottleReturn$Container", "<init>", "()V"⟩
abbrev c_co_init : ByteArray := prog_5_method_1_code
theorem w_co_init : Cond.code y_co_init c_co_init 1 (Option.none : Option Jvm.ClassFile.FieldType) ∈ wt := wt_in (List.mem_of_getElem? (i := 73) (by decide +kernel)) rfl
def y_co_begin : MethodName := ⟨"BottleReturn$Container", "begin", "(II)V"⟩
abbrev c_co_begin : ByteArray := prog_5_method_2_code
theorem w_co_begin : Cond.code y_co_begin c_co_begin 3 (Option.none : Option Jvm.ClassFile.FieldType) ∈ wt := wt_in (List.mem_of_getElem? (i := 446) (by decide +kernel)) rfl
def y_co_forget : MethodName := ⟨"BottleReturn$Container", "forget", "()V"⟩
abbrev c_co_forget : ByteArray := prog_5_method_3_code
theorem w_co_forget : Cond.code y_co_forget c_co_forget 1 (Option.none : Option Jvm.ClassFile.FieldType) ∈ wt := wt_in (List.mem_of_getElem? (i := 271) (by decide +kernel)) rfl
def y_co_rear : MethodName := ⟨"BottleReturn$Container", "rear", "()I"⟩
abbrev c_co_rear : ByteArray := prog_5_method_4_code
theorem w_co_rear : Cond.code y_co_rear c_co_rear 1 (some FieldType.int) ∈ wt := wt_in (List.mem_of_getElem? (i := 291) (by decide +kernel)) rfl
def y_co_isOver : MethodName := ⟨"BottleReturn$Container", "isOver", "(I)Z"⟩
abbrev c_co_isOver : ByteArray := prog_5_method_5_code
theorem w_co_isOver : Cond.code y_co_isOver c_co_isOver 2 (some FieldType.boolean) ∈ wt := wt_in (List.mem_of_getElem? (i := 462) (by decide +kernel)) rfl
def y_jo_init : MethodName := ⟨"BottleReturn$Journal", "<init>", "()V"⟩
abbrev c_jo_init : ByteArray := prog_6_method_1_code
theorem w_jo_init : Cond.code y_jo_init c_jo_init 1 (Option.none : Option Jvm.ClassFile.FieldType) ∈ wt := wt_in (List.mem_of_getElem? (i := 195) (by decide +kernel)) rfl
def y_jo_write : MethodName := ⟨"BottleReturn$Journal", "write", "()Z"⟩
abbrev c_jo_write : ByteArray := prog_6_method_2_code
theorem w_jo_write : Cond.code y_jo_write c_jo_write 1 (some FieldType.boolean) ∈ wt := wt_in (List.mem_of_getElem? (i := 283) (by decide +kernel)) rfl
def y_la_init : MethodName := ⟨"BottleReturn$Latest", "<init>", "()V"⟩
abbrev c_la_init : ByteArray := prog_7_method_1_code
theorem w_la_init : Cond.code y_la_init c_la_init 1 (Option.none : Option Jvm.ClassFile.FieldType) ∈ wt := wt_in (List.mem_of_getElem? (i := 214) (by decide +kernel)) rfl
def y_la_note : MethodName := ⟨"BottleReturn$Latest", "note", "(LBottleReturn$Row;)V"⟩
abbrev c_la_note : ByteArray := prog_7_method_2_code
theorem w_la_note : Cond.code y_la_note c_la_note 2 (Option.none : Option Jvm.ClassFile.FieldType) ∈ wt := wt_in (List.mem_of_getElem? (i := 566) (by decide +kernel)) rfl
def y_la_areAllLike : MethodName := ⟨"BottleReturn$Latest", "areAllLike", "(LBottleReturn$Row;)Z"⟩
abbrev c_la_areAllLike : ByteArray := prog_7_method_3_code
theorem w_la_areAllLike : Cond.code y_la_areAllLike c_la_areAllLike 2 (some FieldType.boolean) ∈ wt := wt_in (List.mem_of_getElem? (i := 558) (by decide +kernel)) rfl
def y_la_isLike : MethodName := ⟨"BottleReturn$Latest", "isLike", "(LBottleReturn$Row;)Z"⟩
abbrev c_la_isLike : ByteArray := prog_7_method_4_code
theorem w_la_isLike : Cond.code y_la_isLike c_la_isLike 3 (some FieldType.boolean) ∈ wt := wt_in (List.mem_of_getElem? (i := 562) (by decide +kernel)) rfl
def y_ro_init : MethodName := ⟨"BottleReturn$Row", "<init>", "(I)V"⟩
abbrev c_ro_init : ByteArray := prog_8_method_1_code
theorem w_ro_init : Cond.code y_ro_init c_ro_init 2 (Option.none : Option Jvm.ClassFile.FieldType) ∈ wt := wt_in (List.mem_of_getElem? (i := 79) (by decide +kernel)) rfl
def y_ro_isFull : MethodName := ⟨"BottleReturn$Row", "isFull", "()Z"⟩
abbrev c_ro_isFull : ByteArray := prog_8_method_2_code
theorem w_ro_isFull : Cond.code y_ro_isFull c_ro_isFull 1 (some FieldType.boolean) ∈ wt := wt_in (List.mem_of_getElem? (i := 471) (by decide +kernel)) rfl
def y_ro_take : MethodName := ⟨"BottleReturn$Row", "take", "(I)Z"⟩
abbrev c_ro_take : ByteArray := prog_8_method_3_code
theorem w_ro_take : Cond.code y_ro_take c_ro_take 2 (some FieldType.boolean) ∈ wt := wt_in (List.mem_of_getElem? (i := 467) (by decide +kernel)) rfl
def y_ro_isUniform : MethodName := ⟨"BottleReturn$Row", "isUniform", "()Z"⟩
abbrev c_ro_isUniform : ByteArray := prog_8_method_4_code
theorem w_ro_isUniform : Cond.code y_ro_isUniform c_ro_isUniform 2 (some FieldType.boolean) ∈ wt := wt_in (List.mem_of_getElem? (i := 525) (by decide +kernel)) rfl
def y_vo_init : MethodName := ⟨"BottleReturn$Vouchers", "<init>", "()V"⟩
abbrev c_vo_init : ByteArray := prog_9_method_1_code
theorem w_vo_init : Cond.code y_vo_init c_vo_init 1 (Option.none : Option Jvm.ClassFile.FieldType) ∈ wt := wt_in (List.mem_of_getElem? (i := 165) (by decide +kernel)) rfl
def y_vo_isFull : MethodName := ⟨"BottleReturn$Vouchers", "isFull", "()Z"⟩
abbrev c_vo_isFull : ByteArray := prog_9_method_2_code
theorem w_vo_isFull : Cond.code y_vo_isFull c_vo_isFull 1 (some FieldType.boolean) ∈ wt := wt_in (List.mem_of_getElem? (i := 550) (by decide +kernel)) rfl
def y_vo_issue : MethodName := ⟨"BottleReturn$Vouchers", "issue", "(I)I"⟩
abbrev c_vo_issue : ByteArray := prog_9_method_3_code
theorem w_vo_issue : Cond.code y_vo_issue c_vo_issue 2 (some FieldType.int) ∈ wt := wt_in (List.mem_of_getElem? (i := 596) (by decide +kernel)) rfl
def y_vo_keep : MethodName := ⟨"BottleReturn$Vouchers", "keep", "(IIZ)V"⟩
abbrev c_vo_keep : ByteArray := prog_9_method_4_code
theorem w_vo_keep : Cond.code y_vo_keep c_vo_keep 4 (Option.none : Option Jvm.ClassFile.FieldType) ∈ wt := wt_in (List.mem_of_getElem? (i := 600) (by decide +kernel)) rfl
def y_vo_placeOf : MethodName := ⟨"BottleReturn$Vouchers", "placeOf", "(I)I"⟩
abbrev c_vo_placeOf : ByteArray := prog_9_method_5_code
theorem w_vo_placeOf : Cond.code y_vo_placeOf c_vo_placeOf 3 (some FieldType.int) ∈ wt := wt_in (List.mem_of_getElem? (i := 618) (by decide +kernel)) rfl
def y_vo_payOut : MethodName := ⟨"BottleReturn$Vouchers", "payOut", "(I)I"⟩
abbrev c_vo_payOut : ByteArray := prog_9_method_6_code
theorem w_vo_payOut : Cond.code y_vo_payOut c_vo_payOut 2 (some FieldType.int) ∈ wt := wt_in (List.mem_of_getElem? (i := 622) (by decide +kernel)) rfl
def y_vo_forgetRedeemed : MethodName := ⟨"BottleReturn$Vouchers", "forgetRedeemed", "()I"⟩
abbrev c_vo_forgetRedeemed : ByteArray := prog_9_method_7_code
theorem w_vo_forgetRedeemed : Cond.code y_vo_forgetRedeemed c_vo_forgetRedeemed 3 (some FieldType.int) ∈ wt := wt_in (List.mem_of_getElem? (i := 633) (by decide +kernel)) rfl
def y_vo_firstDigits : MethodName := ⟨"BottleReturn$Vouchers", "firstDigits", "(I)I"⟩
abbrev c_vo_firstDigits : ByteArray := prog_9_method_8_code
theorem w_vo_firstDigits : Cond.code y_vo_firstDigits c_vo_firstDigits 2 (some FieldType.int) ∈ wt := wt_in (List.mem_of_getElem? (i := 675) (by decide +kernel)) rfl
def y_vo_lastDigits : MethodName := ⟨"BottleReturn$Vouchers", "lastDigits", "(I)I"⟩
abbrev c_vo_lastDigits : ByteArray := prog_9_method_9_code
theorem w_vo_lastDigits : Cond.code y_vo_lastDigits c_vo_lastDigits 5 (some FieldType.int) ∈ wt := wt_in (List.mem_of_getElem? (i := 679) (by decide +kernel)) rfl
def y_l_contour : MethodName := ⟨"BottleReturnLaw", "contour", "(LBottleReturn;IIII)I"⟩
abbrev c_l_contour : ByteArray := method_3_code
theorem w_l_contour : Cond.codeWith y_l_contour c_l_contour 6 (some FieldType.int) [(0, 9, 12, 13), (0, 9, 16, 15)] ∈ wt := wt_in (List.mem_of_getElem? (i := 309) (by decide +kernel)) rfl
def y_l_kind : MethodName := ⟨"BottleReturnLaw", "kind", "(LBottleReturn;IIIIIII[J)I"⟩
abbrev c_l_kind : ByteArray := method_4_code
theorem w_l_kind : Cond.codeWith y_l_kind c_l_kind 10 (some FieldType.int) [(0, 20, 23, 13), (0, 20, 27, 15)] ∈ wt := wt_in (List.mem_of_getElem? (i := 409) (by decide +kernel)) rfl
def y_l_enter : MethodName := ⟨"BottleReturnLaw", "enter", "(LBottleReturn;I[J)I"⟩
abbrev c_l_enter : ByteArray := method_5_code
theorem w_l_enter : Cond.codeWith y_l_enter c_l_enter 4 (some FieldType.int) [(0, 9, 12, 13), (0, 9, 15, 15)] ∈ wt := wt_in (List.mem_of_getElem? (i := 433) (by decide +kernel)) rfl
def y_l_code : MethodName := ⟨"BottleReturnLaw", "code", "(LBottleReturn;I[J)I"⟩
abbrev c_l_code : ByteArray := method_6_code
theorem w_l_code : Cond.codeWith y_l_code c_l_code 4 (some FieldType.int) [(0, 16, 19, 13), (0, 16, 22, 15)] ∈ wt := wt_in (List.mem_of_getElem? (i := 450) (by decide +kernel)) rfl
def y_l_width : MethodName := ⟨"BottleReturnLaw", "width", "(LBottleReturn;I[J)I"⟩
abbrev c_l_width : ByteArray := method_7_code
theorem w_l_width : Cond.codeWith y_l_width c_l_width 4 (some FieldType.int) [(0, 16, 19, 13), (0, 16, 22, 15)] ∈ wt := wt_in (List.mem_of_getElem? (i := 474) (by decide +kernel)) rfl
def y_l_weigh : MethodName := ⟨"BottleReturnLaw", "weigh", "(LBottleReturn;I[J)I"⟩
abbrev c_l_weigh : ByteArray := method_8_code
theorem w_l_weigh : Cond.codeWith y_l_weigh c_l_weigh 4 (some FieldType.int) [(0, 16, 19, 13), (0, 16, 22, 15)] ∈ wt := wt_in (List.mem_of_getElem? (i := 481) (by decide +kernel)) rfl
def y_l_forward : MethodName := ⟨"BottleReturnLaw", "forward", "(LBottleReturn;I[J)I"⟩
abbrev c_l_forward : ByteArray := method_9_code
theorem w_l_forward : Cond.codeWith y_l_forward c_l_forward 4 (some FieldType.int) [(0, 9, 12, 13), (0, 9, 15, 15)] ∈ wt := wt_in (List.mem_of_getElem? (i := 488) (by decide +kernel)) rfl
def y_l_back : MethodName := ⟨"BottleReturnLaw", "back", "(LBottleReturn;I[J)I"⟩
abbrev c_l_back : ByteArray := method_10_code
theorem w_l_back : Cond.codeWith y_l_back c_l_back 4 (some FieldType.int) [(0, 9, 12, 13), (0, 9, 15, 15)] ∈ wt := wt_in (List.mem_of_getElem? (i := 572) (by decide +kernel)) rfl
def y_l_voucher : MethodName := ⟨"BottleReturnLaw", "voucher", "(LBottleReturn;[J)I"⟩
abbrev c_l_voucher : ByteArray := method_11_code
theorem w_l_voucher : Cond.codeWith y_l_voucher c_l_voucher 3 (some FieldType.int) [(0, 8, 11, 13)] ∈ wt := wt_in (List.mem_of_getElem? (i := 588) (by decide +kernel)) rfl
def y_l_give : MethodName := ⟨"BottleReturnLaw", "give", "(LBottleReturn;[J)I"⟩
abbrev c_l_give : ByteArray := method_12_code
theorem w_l_give : Cond.codeWith y_l_give c_l_give 3 (some FieldType.int) [(0, 8, 11, 13)] ∈ wt := wt_in (List.mem_of_getElem? (i := 603) (by decide +kernel)) rfl
def y_l_redeem : MethodName := ⟨"BottleReturnLaw", "redeem", "(LBottleReturn;I[J)I"⟩
abbrev c_l_redeem : ByteArray := method_13_code
theorem w_l_redeem : Cond.codeWith y_l_redeem c_l_redeem 4 (some FieldType.int) [(0, 9, 12, 13), (0, 9, 15, 15)] ∈ wt := wt_in (List.mem_of_getElem? (i := 610) (by decide +kernel)) rfl
def y_l_clear : MethodName := ⟨"BottleReturnLaw", "clear", "(LBottleReturn;[J)I"⟩
abbrev c_l_clear : ByteArray := method_14_code
theorem w_l_clear : Cond.codeWith y_l_clear c_l_clear 3 (some FieldType.int) [(0, 8, 11, 13)] ∈ wt := wt_in (List.mem_of_getElem? (i := 625) (by decide +kernel)) rfl
def y_l_empty : MethodName := ⟨"BottleReturnLaw", "empty", "(LBottleReturn;II[J)I"⟩
abbrev c_l_empty : ByteArray := method_15_code
theorem w_l_empty : Cond.codeWith y_l_empty c_l_empty 5 (some FieldType.int) [(0, 10, 13, 13), (0, 10, 17, 15)] ∈ wt := wt_in (List.mem_of_getElem? (i := 636) (by decide +kernel)) rfl
def y_l_service : MethodName := ⟨"BottleReturnLaw", "service", "(LBottleReturn;[J)I"⟩
abbrev c_l_service : ByteArray := method_16_code
theorem w_l_service : Cond.codeWith y_l_service c_l_service 3 (some FieldType.int) [(0, 15, 18, 13)] ∈ wt := wt_in (List.mem_of_getElem? (i := 643) (by decide +kernel)) rfl
def y_l_cut : MethodName := ⟨"BottleReturnLaw", "cut", "(LBottleReturn;I)I"⟩
abbrev c_l_cut : ByteArray := method_17_code
theorem w_l_cut : Cond.codeWith y_l_cut c_l_cut 3 (some FieldType.int) [(0, 5, 8, 15)] ∈ wt := wt_in (List.mem_of_getElem? (i := 650) (by decide +kernel)) rfl
def y_l_check : MethodName := ⟨"BottleReturnLaw", "check", "(LBottleReturn;II[J)I"⟩
abbrev c_l_check : ByteArray := method_18_code
theorem w_l_check : Cond.codeWith y_l_check c_l_check 5 (some FieldType.int) [(0, 17, 20, 15)] ∈ wt := wt_in (List.mem_of_getElem? (i := 657) (by decide +kernel)) rfl
def y_l_about : MethodName := ⟨"BottleReturnLaw", "about", "(LBottleReturn;II[J)I"⟩
abbrev c_l_about : ByteArray := method_19_code
theorem w_l_about : Cond.codeWith y_l_about c_l_about 5 (some FieldType.int) [(0, 10, 13, 15)] ∈ wt := wt_in (List.mem_of_getElem? (i := 667) (by decide +kernel)) rfl
def y_l_container : MethodName := ⟨"BottleReturnLaw", "container", "(LBottleReturn;II[J)I"⟩
abbrev c_l_container : ByteArray := method_20_code
theorem w_l_container : Cond.codeWith y_l_container c_l_container 5 (some FieldType.int) [(0, 10, 13, 15)] ∈ wt := wt_in (List.mem_of_getElem? (i := 688) (by decide +kernel)) rfl
def y_l_bin : MethodName := ⟨"BottleReturnLaw", "bin", "(LBottleReturn;II[J)I"⟩
abbrev c_l_bin : ByteArray := method_21_code
theorem w_l_bin : Cond.codeWith y_l_bin c_l_bin 5 (some FieldType.int) [(0, 10, 13, 15)] ∈ wt := wt_in (List.mem_of_getElem? (i := 699) (by decide +kernel)) rfl
def y_l_total : MethodName := ⟨"BottleReturnLaw", "total", "(LBottleReturn;I[J)I"⟩
abbrev c_l_total : ByteArray := method_22_code
theorem w_l_total : Cond.codeWith y_l_total c_l_total 4 (some FieldType.int) [(0, 9, 12, 15)] ∈ wt := wt_in (List.mem_of_getElem? (i := 706) (by decide +kernel)) rfl
def y_l_law : MethodName := ⟨"BottleReturnLaw", "law", "([I)Z"⟩
end
section
/-! The flat memory of the class and of the reference: f_gI z k i j: the int at place j of the object i of kind k; f_gR z j: which container the belt's place j holds; f_gO z: the law's out[0]. And the small words that the pure functions are made of. -/
abbrev fST : Type := (Nat → Nat → Nat → Int32) × (Nat → Nat) × Int64
def f_gI (z : fST) (k i j : Nat) : Int32 := z.1 k i j
def f_pI (z : fST) (k i j : Nat) (v : Int32) : fST := (fun a b c => if a = k ∧ b = i ∧ c = j then v else z.1 a b c, z.2)
def f_gR (z : fST) (j : Nat) : Nat := z.2.1 j
def f_pR (z : fST) (j n : Nat) : fST := (z.1, fun a => if a = j then n else z.2.1 a, z.2.2)
def f_gO (z : fST) : Int64 := z.2.2
def f_pO (z : fST) (v : Int64) : fST := (z.1, z.2.1, v)
def f_ix (x : Int32) : Nat := x.toNatClampNeg
def f_ib (x : Int32) (n : Nat) : Bool := decide (¬ (x < 0 ∨ n ≤ x.toNatClampNeg))
def f_bz (x : Int32) : Bool := decide (x = 0 ∨ x = 1)
def f_gd {α : Type} (b : Bool) (r : Option α) : Option α := if b = true then r else none
def f_bd {α β : Type} (x : Option (α × fST)) (f : α → fST → Option β) : Option β := match x with
  | none => none
  | some q => f q.1 q.2
def f_bx {α β : Type} (x : Option ((α ⊕ Nat) × fST)) (f : α → fST → Option β) (g : Nat → fST → Option β) : Option β := match x with
  | none => none
  | some (.inl v, z) => f v z
  | some (.inr n, z) => g n z
def f_cz {β : Type} (r : Option Nat) (a : β) (f : Nat → β) : β := match r with
  | none => a
  | some i => f i
def f_it {α β : Type} (f : (α → Option β) → α → Option β) : Nat → α → Option β
  | 0, _ => none
  | n + 1, v => f (f_it f n) v
def f_us (x y : Int32) : Int32 := (x.toUInt32 >>> (y.toUInt32 &&& Int32.toUInt32 31)).toInt32
def f_ab (x : Int32) : Int32 := if 0 ≤ x then x else 0 - x
def f_cpL (z : fST) (i : Nat) : fST := (fun a b c => if a = 25 ∧ b = 0 ∧ c < 8 then z.1 15 i c else z.1 a b c, z.2)
def f_ln (i : Nat) : Nat := if i < 16 then 3 else 8
theorem f_gd_some {α : Type} {b : Bool} {r : Option α} {x : α} (h : f_gd b r = some x) : b = true ∧ r = some x := by
  unfold f_gd at h
  split at h
  · exact ⟨by assumption, h⟩
  · cases h
theorem f_bd_some {α β : Type} {x : Option (α × fST)} {f : α → fST → Option β} {y : β} (h : f_bd x f = some y) : ∃ v z, x = some (v, z) ∧ f v z = some y := by
  cases x with
  | none => cases h
  | some q => exact ⟨q.1, q.2, rfl, h⟩
theorem f_bx_some {α β : Type} {x : Option ((α ⊕ Nat) × fST)} {f : α → fST → Option β} {g : Nat → fST → Option β} {y : β} (h : f_bx x f g = some y) : (∃ v z, x = some (.inl v, z) ∧ f v z = some y) ∨ ∃ n z, x = some (.inr n, z) ∧ g n z = some y := by
  cases x with
  | none => cases h
  | some q =>
    obtain ⟨a, z⟩ := q
    cases a with
    | inl v => exact Or.inl ⟨v, z, rfl, h⟩
    | inr n => exact Or.inr ⟨n, z, rfl, h⟩
theorem f_cz_n {β : Type} {a : β} {f : Nat → β} {r : β} (h : f_cz none a f = r) : a = r := h
theorem f_cz_s {β : Type} {a : β} {f : Nat → β} {r : β} {i : Nat} (h : f_cz (some i) a f = r) : f i = r := h
theorem f_it_s {α β : Type} {f : (α → Option β) → α → Option β} {n : Nat} {v : α} {r : Option β} (h : f_it f (n + 1) v = r) : f (f_it f n) v = r := h
theorem f_ib_in {x : Int32} {n : Nat} (h : f_ib x n = true) : vp_in x n := (of_decide_eq_true h : ¬ (x < 0 ∨ n ≤ x.toNatClampNeg))
theorem f_ib_lt {x : Int32} {n : Nat} (h : f_ib x n = true) : f_ix x < n := Nat.not_le.mp fun q => (of_decide_eq_true h : ¬ (x < 0 ∨ n ≤ x.toNatClampNeg)) (Or.inr q)
theorem f_bz_or {x : Int32} (h : f_bz x = true) : x = 0 ∨ x = 1 := (of_decide_eq_true h : x = 0 ∨ x = 1)
def f_ob (k : Nat) : Option Nat := if k = 0 then some 0 else if k = 1 then some 1 else if k = 11 then some 2 else if k = 13 then some 3 else if k = 14 then some 4 else if k = 16 then some 5 else if k = 19 then some 6 else if k = 23 then some 7 else if k = 24 then some 8 else if k = 30 then some 9 else none
def f_nf (k : Nat) : Nat := if k = 0 then 12 else if k = 1 then 8 else if k = 11 then 3 else if k = 13 then 9 else if k = 14 then 2 else if k = 16 then 2 else if k = 19 then 6 else if k = 23 then 3 else if k = 24 then 2 else if k = 30 then 26 else 0
def f_ft (k j : Nat) : Option (Nat × Nat) := if k = 0 then (if j = 0 then some (1, 0) else if j = 1 then some (11, 0) else if j = 2 then some (16, 0) else if j = 3 then some (19, 0) else if j = 4 then some (23, 0) else if j = 5 then some (24, 0) else if j = 6 then some (26, 0) else none) else if k = 1 then (if j = 0 then some (2, 0) else if j = 1 then some (3, 0) else if j = 2 then some (4, 0) else if j = 3 then some (5, 0) else if j = 4 then some (6, 0) else if j = 5 then some (7, 0) else if j = 6 then some (8, 0) else if j = 7 then some (10, 0) else none) else if k = 11 then (if j = 0 then some (12, 0) else none) else if k = 13 then (if j = 0 then some (14, 0) else if j = 1 then some (14, 16) else none) else if k = 14 then (if j = 0 then some (15, 0) else none) else if k = 16 then (if j = 0 then some (17, 0) else if j = 1 then some (18, 0) else none) else if k = 19 then (if j = 0 then some (20, 0) else if j = 1 then some (21, 0) else if j = 2 then some (22, 0) else none) else if k = 23 then (none) else if k = 24 then (if j = 0 then some (25, 0) else none) else if k = 30 then (if j = 0 then some (31, 0) else if j = 1 then some (32, 0) else if j = 2 then some (33, 0) else if j = 3 then some (34, 0) else if j = 6 then some (35, 0) else if j = 7 then some (36, 0) else if j = 9 then some (37, 0) else if j = 10 then some (38, 0) else if j = 11 then some (39, 0) else if j = 14 then some (40, 0) else if j = 20 then some (41, 0) else none) else none
def f_at (k : Nat) : Nat := if k = 12 then 3 else if k = 8 then 4 else if k = 50 then 2 else if k = 22 ∨ k = 39 then 1 else 0
def f_al (k i : Nat) : Nat := if k = 15 then f_ln i else if k = 2 then 40 else if k = 3 then 40 else if k = 4 then 40 else if k = 5 then 40 else if k = 6 then 40 else if k = 7 then 40 else if k = 9 then 8 else if k = 10 then 8 else if k = 17 then 3 else if k = 18 then 3 else if k = 20 then 60 else if k = 21 then 60 else if k = 22 then 60 else if k = 25 then 8 else if k = 26 then 10 else if k = 31 then 64 else if k = 32 then 8 else if k = 33 then 240 else if k = 34 then 1200 else if k = 35 then 3 else if k = 36 then 3 else if k = 37 then 60 else if k = 38 then 60 else if k = 39 then 60 else if k = 40 then 24 else if k = 41 then 10 else 0
end
section
/-! Which objects there are: kinds 0 to 26 the class's, 30 to 41 the reference's, 50 the law's out. f_cnt: how many of a kind. f_cell: what each of them holds, read off the flat memory. -/
def f_cnt (k : Nat) : Nat := if k = 9 then 8 else if k = 13 then 16 else if k = 14 ∨ k = 15 then 32 else if k < 27 ∨ (30 ≤ k ∧ k < 42) ∨ k = 50 then 1 else 0
def f_en : List (Nat × Nat) := (List.range 51).flatMap fun k => (List.range (f_cnt k)).map fun i => (k, i)
theorem f_en_nd : f_en.Nodup := by decide +kernel
theorem f_en_mem {k i : Nat} (hk : k < 51) (hi : i < f_cnt k) : (k, i) ∈ f_en := List.mem_flatMap.mpr ⟨k, List.mem_range.mpr hk, List.mem_map.mpr ⟨i, List.mem_range.mpr hi, rfl⟩⟩
theorem f_en_lt {q : Nat × Nat} (h : q ∈ f_en) : q.2 < f_cnt q.1 := by
  obtain ⟨k, -, h⟩ := List.mem_flatMap.mp h
  obtain ⟨i, hi, rfl⟩ := List.mem_map.mp h
  exact List.mem_range.mp hi
def f_fv (L : Nat → Nat → Nat) (z : fST) (k i j : Nat) : Value := match f_ft k j with
  | none => .int (f_gI z k i j)
  | some q => .ref (L q.1 (i + q.2))
def f_cell (L : Nat → Nat → Nat) (Ar : Nat → ClassId) (z : fST) (k i : Nat) : va_E := match f_ob k with
  | some ci => .inr (ci, (List.range (f_nf k)).map (f_fv L z k i))
  | none => match f_at k with
    | 0 => .inl (Ar 0, f_al k i, .inl (f_gI z k i))
    | 1 => .inl (Ar 1, f_al k i, .inl (f_gI z k i))
    | 2 => .inl (Ar 2, 1, .inr (.inl (fun _ => f_gO z)))
    | 3 => .inl (Ar 3, 16, .inr (.inr (.inr (.inr (fun j => some (L 13 (f_gR z j)))))))
    | _ => .inl (Ar 4, 8, .inr (.inr (.inr (.inr (fun j => some (L 9 j))))))
def f_ws (L : Nat → Nat → Nat) (Ar : Nat → ClassId) (z : fST) : va_W := f_en.map fun q => (L q.1 q.2, f_cell L Ar z q.1 q.2)
def f_A (b0 : Nat) : Nat → Prop := fun q => b0 ≤ q
/-- the addresses: apart, and none below b0 -/
def f_L (L : Nat → Nat → Nat) (b0 : Nat) : Prop := (∀ q ∈ f_en, ∀ r ∈ f_en, L q.1 q.2 = L r.1 r.2 → q = r) ∧ ∀ q ∈ f_en, b0 ≤ L q.1 q.2
def f_tys (Ar : Nat → ClassId) : List (ClassId × FieldType) := [(Ar 0, .int), (Ar 1, .boolean), (Ar 2, .long), (Ar 3, .object "BottleReturn$Container"), (Ar 4, .array .int)]
def f_K (Ar : Nat → ClassId) (D : va_G) (U : State) : Prop := va_K D vwCl (f_tys Ar) U
def f_W (L : Nat → Nat → Nat) (Ar : Nat → ClassId) (D : va_G) (z : fST) (H : Heap) : Prop := va_P D vwCl (f_ws L Ar z) H
def f_exc : Nat → String
  | 1 => "java/lang/IllegalStateException"
  | _ => "java/lang/IllegalArgumentException"
/-- what a throw reads of java.lang.Throwable's statics: they lie below b0, and nobody writes there -/
def f_zw : List Cond := [.isRef (.static "java/lang/Throwable" "UNASSIGNED_STACK" "[Ljava/lang/StackTraceElement;"), .isRef (.static "java/lang/Throwable" "SUPPRESSED_SENTINEL" "Ljava/util/List;"), .laysStatic "java/lang/Throwable" "UNASSIGNED_STACK" "[Ljava/lang/StackTraceElement;", .laysStatic "java/lang/Throwable" "SUPPRESSED_SENTINEL" "Ljava/util/List;"]
def f_Z0 (b0 : Nat) (U : State) (H : Heap) : Prop := ∀ (args : Array Value) (U' : State), U.vm.Alike U'.vm → (∀ q : Nat, q < b0 → U'.heap[q]? = H[q]?) → ∀ w ∈ f_zw, w.before args U' = true
/-- words that stay true as the tables grow warmer, though they are none of wt's: a nest mate's call, what can be cast, what is declared -/
def f_kn : Cond → Bool
  | .castable .. => true
  | .declares _ => true
  | .methodLinkNest .. => true
  | _ => false
theorem f_kn_on {w : Cond} (h : f_kn w = true) : w.onTables = true := by
  cases w <;> first | rfl | (simp [f_kn] at h; done)
theorem f_kn_warm {w : Cond} (h : f_kn w = true) {u U : State} (hW : u.WarmedH U.vm) (hZ : va_Nw w u) : va_Nw w U := by
  cases w <;> first | exact va_Nw.warmC hW hZ | exact va_Nw.warmD hW hZ | exact va_Nw.warmM hW hZ | (simp [f_kn] at h; done)
def f_N (U : State) : Prop := (∀ w ∈ tables_1, f_kn w = true → va_Nw w U) ∧ va_Nc "java/lang/IllegalArgumentException" "java/lang/IllegalStateException" U
theorem f_N.moved {u U : State} (hW : u.WarmedH U.vm) (h : f_N u) : f_N U := ⟨fun w h1 h2 => f_kn_warm h2 hW (h.1 w h1 h2), va_Nc.moved hW.alike h.2⟩
def f_Z (b0 : Nat) (U : State) (H : Heap) : Prop := f_Z0 b0 U H ∧ f_N U
theorem f_Z.moved {b0 : Nat} {u U : State} {H : Heap} (hW : u.WarmedH U.vm) (h : f_Z b0 u H) : f_Z b0 U H := ⟨fun a U' h1 h2 => h.1 a U' (hW.alike.trans h1) h2, h.2.moved hW⟩
theorem f_Z.kept {b0 : Nat} {U : State} {H H1 : Heap} (h : f_Z b0 U H) (hq : ∀ q : Nat, q < b0 → H1[q]? = H[q]?) : f_Z b0 U H1 := ⟨fun a U' h1 h2 => h.1 a U' h1 (fun q hq' => (h2 q hq').trans (hq q hq')), h.2⟩
section FW
variable {L : Nat → Nat → Nat} {Ar : Nat → ClassId} {D : va_G} {b0 : Nat} {z z' : fST} {H : Heap}
theorem f_pos {k i : Nat} (h : (k, i) ∈ f_en) : ∃ q0 : Nat, f_en[q0]? = some (k, i) ∧ ∀ z : fST, (f_ws L Ar z)[q0]? = some (L k i, f_cell L Ar z k i) := by
  obtain ⟨q0, hq⟩ := List.getElem?_of_mem h
  exact ⟨q0, hq, fun z => by simp [f_ws, hq]⟩
theorem f_D (h : f_L L b0) (z : fST) : va_D (f_A b0) (f_ws L Ar z) := by
  have key : ∀ (k : Nat) (q : Nat × va_E), (f_ws L Ar z)[k]? = some q → ∃ r, f_en[k]? = some r ∧ q.1 = L r.1 r.2 := by
    intro k q hq
    unfold f_ws at hq
    rw [List.getElem?_map] at hq
    cases hr : f_en[k]? with
    | none => rw [hr] at hq; cases hq
    | some r => rw [hr] at hq; cases hq; exact ⟨r, rfl, rfl⟩
  refine ⟨fun i j p q hp hq e => ?_, fun k q hq => ?_⟩
  · obtain ⟨r1, h1, e1⟩ := key i p hp
    obtain ⟨r2, h2, e2⟩ := key j q hq
    have hrr := h.1 r1 (List.mem_of_getElem? h1) r2 (List.mem_of_getElem? h2) (by rw [← e1, ← e2, e])
    subst hrr
    have hlt : i < f_en.length := (List.getElem?_eq_some_iff.mp h1).1
    exact (List.getElem?_inj hlt f_en_nd).mp (h1.trans h2.symm)
  · obtain ⟨r, h1, e1⟩ := key k q hq
    rw [e1]
    exact h.2 r (List.mem_of_getElem? h1)
theorem f_set {q0 k i : Nat} {E : va_E} (h : f_en[q0]? = some (k, i)) (hc : f_cell L Ar z' k i = E) (hne : ∀ q ∈ f_en, q ≠ (k, i) → f_cell L Ar z' q.1 q.2 = f_cell L Ar z q.1 q.2) : (f_ws L Ar z).set q0 (L k i, E) = f_ws L Ar z' := by
  apply List.ext_getElem?
  intro j
  by_cases hj : j = q0
  · subst hj
    have hlt : j < (f_ws L Ar z).length := by
      unfold f_ws
      rw [List.length_map]
      exact (List.getElem?_eq_some_iff.mp h).1
    rw [List.getElem?_set_self hlt]
    simp [f_ws, h, hc]
  · rw [List.getElem?_set_ne (Ne.symm hj)]
    simp only [f_ws, List.getElem?_map]
    cases hr : f_en[j]? with
    | none => rfl
    | some r =>
      have hn : r ≠ (k, i) := by
        intro e
        subst e
        exact hj ((List.getElem?_inj (List.getElem?_eq_some_iff.mp hr).1 f_en_nd).mp (hr.trans h.symm))
      simp only [Option.map_some]
      rw [hne r (List.mem_of_getElem? hr) hn]
theorem f_gI_ne {k i j k' i' : Nat} {v : Int32} (h : (k', i') ≠ (k, i)) : f_gI (f_pI z k i j v) k' i' = f_gI z k' i' := by
  funext a
  simp only [f_gI, f_pI]
  rw [if_neg]
  rintro ⟨rfl, rfl, -⟩
  exact h rfl
theorem f_cell_pI {k i j : Nat} {v : Int32} {q : Nat × Nat} (h : q ≠ (k, i)) : f_cell L Ar (f_pI z k i j v) q.1 q.2 = f_cell L Ar z q.1 q.2 := by
  have e := f_gI_ne (z := z) (j := j) (v := v) (k := k) (i := i) (k' := q.1) (i' := q.2) h
  have e2 : f_fv L (f_pI z k i j v) q.1 q.2 = f_fv L z q.1 q.2 := by
    funext a
    simp only [f_fv]
    rw [e]
  unfold f_cell
  rw [e, e2]
  rfl
end FW
end
section
/-! The method contract of this proof (f_C): from any state whose heap holds the flat memory z, the method ends with the outcome o, and the heap holds z'. Its room: d frames, u new cells of six slots. And what ends a walk: a return, a throw. -/
def f_rm (d u : Nat) : Room := { frames := d, cells := u, slots := 6 * u, locals := 40 * d }
def f_Pc (L : Nat → Nat → Nat) (Ar : Nat → ClassId) (D : va_G) (b0 : Nat) (as : List Value) (z : fST) : Array Value → State → Prop :=
  fun v U => v = as.toArray ∧ b0 ≤ U.heap.size ∧ f_K Ar D U ∧ f_Z b0 U U.heap ∧ f_W L Ar D z U.heap
def f_oc (o : Option Value ⊕ Nat) (st : State) (oc : Outcome) (t : State) : Prop := match o with
  | .inl v => oc = .returned v
  | .inr n => ∃ (q : Addr) (ce : Cell), oc = .threw q ∧ t.heap[q]? = some ce ∧ ce.vm = .none ∧ st.vm.findClass (f_exc n) = some ce.cls
def f_Qc (L : Nat → Nat → Nat) (Ar : Nat → ClassId) (D : va_G) (b0 u : Nat) (o : Option Value ⊕ Nat) (z' : fST) : Array Value → State → Outcome → State → Prop :=
  fun _ st oc t => f_oc o st oc t ∧ f_W L Ar D z' t.heap ∧ va_F (f_A b0) st t ∧ ∃ Lc : List Loc, st.WarmedH t.vm ∧ st.sameButNew ({ t with vm := st.vm } : State) Lc u (6 * u) ∧ ∀ q ∈ Lc, b0 ≤ q.base
def f_C (l : Launch) (y : MethodName) (ws : List Cond) (d u : Nat) (L : Nat → Nat → Nat) (Ar : Nat → ClassId) (D : va_G) (b0 : Nat) (as : List Value) (z : fST) (o : Option Value ⊕ Nat) (z' : fST) : Prop :=
  MetFree l y (headSpec ws (f_rm d u)) (f_Pc L Ar D b0 as z) (fun _ _ _ _ _ => True) (f_Qc L Ar D b0 u o z')
/-- what a walk owes at its end -/
def f_E (below : List Frame) (args : Array Value) (s : State) (L : Nat → Nat → Nat) (Ar : Nat → ClassId) (D : va_G) (b0 u : Nat) (o : Option Value ⊕ Nat) (z' : fST) : State → Prop :=
  fun t => ∃ oc, t.status = .running ∧ Ended t below oc ∧ f_Qc L Ar D b0 u o z' args s oc t
/-- a block of a method: from every heap that holds z, with these locals and this stack -/
def f_B (p : Program) (l : Launch) (e : Env) (R : Room) (s : State) (m : MethodId) (args : Array Value) (below : List Frame) (meth : Method) (c : Code) (L : Nat → Nat → Nat) (Ar : Nat → ClassId) (D : va_G) (b0 nL u : Nat) (Q : State → Prop) (rem pc : Nat) (lv : List (Nat × Value)) (st : List Value) (z : fST) : Prop :=
  ∀ (H : Heap) (locs : List Loc) (ls : Array Slot) (cells slots : Nat), f_W L Ar D z H → va_S (f_A b0) s.heap H locs → lv_has ls nL lv → cells + rem ≤ u → slots + 6 * rem ≤ 6 * u → W p l e R s m args below meth c H locs cells slots Q (F0 m pc ls st)
theorem f_met {l : Launch} {y : MethodName} {ws : List Cond} {d u : Nat} {L : Nat → Nat → Nat} {Ar : Nat → ClassId} {D : va_G} {b0 : Nat} {as : List Value} {z z' : fST} {v : Option Value} (h : f_C l y ws d u L Ar D b0 as z (.inl v) z') :
    Met l y ws (f_rm d u) (f_Pc L Ar D b0 as z) (fun _ st oc t => oc = .returned v ∧ f_W L Ar D z' t.heap ∧ va_F (f_A b0) st t) u (6 * u) (f_A b0) := by
  intro p e ha hc hk s m args below hf happ hP hK
  obtain ⟨n, o, h1, h2, h3, ho, hW, hF, Lc, w1, w2, w3⟩ := h p e ha hc hk s m args below hf happ hP hK
  exact ⟨n, o, h1, h2, h3, ⟨ho, hW, hF⟩, Lc, ⟨⟨v, ho⟩, w1, w2⟩, w3⟩
section FC
variable {p : Program} {l : Launch} {e : Env} {R : Room} {s : State} {m : MethodId} {args : Array Value} {below : List Frame} {meth : Method} {c : Code} {H : Heap} {locs : List Loc} {cells slots : Nat} {Q : State → Prop}
variable {cc : ByteArray} {pc : Nat} {ls : Array Slot} {rest : List Value} {L : Nat → Nat → Nat} {Ar : Nat → ClassId} {D : va_G} {b0 u : Nat} {z z' : fST}
theorem f_endR {v : Option Value} {g : JFrame} (k : W p l e R s m args below meth c H locs u (6 * u) (MQ below (fun _ st oc t => oc = .returned v ∧ f_W L Ar D z' t.heap ∧ va_F (f_A b0) st t) args s u (6 * u) (f_A b0)) g) (hc : cells ≤ u) (hs : slots ≤ 6 * u) :
    W p l e R s m args below meth c H locs cells slots (f_E below args s L Ar D b0 u (.inl v) z') g := by
  refine W.widen hc hs ?_
  intro T hT X
  obtain ⟨t, a1, o, b1, b2, ⟨b3, b4, b5⟩, Lc, ⟨-, w1, w2⟩, w3⟩ := k T hT X
  exact ⟨t, a1, o, b1, b2, b3, b4, b5, Lc, w1, w2, w3⟩
theorem hw_iret {v r : Int32} {ty : FieldType} (hx : p.tables.exec = Jvm.exec) (hb : c.code = cc) (hr : meth.sig.returnType = some ty) (hlk : meth.locks = false) (hn : narrow ty (.int v) = .int v) (hW : f_W L Ar D z H) (hS : va_S (f_A b0) s.heap H locs) (hc : cells ≤ u) (hs : slots ≤ 6 * u) (hd : decode cc pc = .ok (.ireturn, 1)) (hF : some (v, z) = some (r, z')) :
    W p l e R s m args below meth c H locs cells slots (f_E below args s L Ar D b0 u (.inl (some (.int r))) z') (F0 m pc ls [.int v]) := by
  cases hF
  exact f_endR (W.zret hx hb hr hn (fun t ht _ => ⟨rfl, by rw [ht]; exact hW, hS.F ht⟩) hS.2.2 hd hlk) hc hs
theorem hw_vret {r : Unit} (hx : p.tables.exec = Jvm.exec) (hb : c.code = cc) (hr : meth.sig.returnType = none) (hlk : meth.locks = false) (hW : f_W L Ar D z H) (hS : va_S (f_A b0) s.heap H locs) (hc : cells ≤ u) (hs : slots ≤ 6 * u) (hd : decode cc pc = .ok (.return_, 1)) (hF : some ((), z) = some (r, z')) :
    W p l e R s m args below meth c H locs cells slots (f_E below args s L Ar D b0 u (.inl none) z') (F0 m pc ls []) := by
  cases hF
  exact f_endR (W.vret hx hb hr (fun t ht _ => ⟨rfl, by rw [ht]; exact hW, hS.F ht⟩) hS.2.2 hd hlk) hc hs
/-- a reference that may be null: which object of kind k -/
def f_rv (L : Nat → Nat → Nat) (k : Nat) (r : Option Nat) : Value := match r with
  | none => .null
  | some i => .ref (L k i)
theorem hw_aret0 {r : Option Nat} {k : Nat} {ty : FieldType} (hx : p.tables.exec = Jvm.exec) (hb : c.code = cc) (hr : meth.sig.returnType = some ty) (hrt : (∃ n, ty = .object n) ∨ ∃ t, ty = .array t) (hlk : meth.locks = false) (hW : f_W L Ar D z H) (hS : va_S (f_A b0) s.heap H locs) (hc : cells ≤ u) (hs : slots ≤ 6 * u) (hd : decode cc pc = .ok (.areturn, 1)) (hF : some ((none : Option Nat), z) = some (r, z')) :
    W p l e R s m args below meth c H locs cells slots (f_E below args s L Ar D b0 u (.inl (some (f_rv L k r))) z') (F0 m pc ls [.null]) := by
  cases hF
  exact f_endR (W.aret hx hb hr hrt (Or.inl rfl) (fun t ht _ => ⟨rfl, by rw [ht]; exact hW, hS.F ht⟩) hS.2.2 hd hlk) hc hs
theorem hw_aret {r : Option Nat} {k i : Nat} {ty : FieldType} (hx : p.tables.exec = Jvm.exec) (hb : c.code = cc) (hr : meth.sig.returnType = some ty) (hrt : (∃ n, ty = .object n) ∨ ∃ t, ty = .array t) (hlk : meth.locks = false) (hW : f_W L Ar D z H) (hS : va_S (f_A b0) s.heap H locs) (hc : cells ≤ u) (hs : slots ≤ 6 * u) (hd : decode cc pc = .ok (.areturn, 1)) (hF : some (some i, z) = some (r, z')) :
    W p l e R s m args below meth c H locs cells slots (f_E below args s L Ar D b0 u (.inl (some (f_rv L k r))) z') (F0 m pc ls [.ref (L k i)]) := by
  cases hF
  exact f_endR (W.aret hx hb hr hrt (Or.inr ⟨_, rfl⟩) (fun t ht _ => ⟨rfl, by rw [ht]; exact hW, hS.F ht⟩) hS.2.2 hd hlk) hc hs
/-- what comes of a method that may throw -/
def f_oi : Int32 ⊕ Nat → Option Value ⊕ Nat
  | .inl v => .inl (some (.int v))
  | .inr n => .inr n
def f_ov : Unit ⊕ Nat → Option Value ⊕ Nat
  | .inl _ => .inl none
  | .inr n => .inr n
theorem hw_iretX {v : Int32} {r : Int32 ⊕ Nat} {ty : FieldType} (hx : p.tables.exec = Jvm.exec) (hb : c.code = cc) (hr : meth.sig.returnType = some ty) (hlk : meth.locks = false) (hn : narrow ty (.int v) = .int v) (hW : f_W L Ar D z H) (hS : va_S (f_A b0) s.heap H locs) (hc : cells ≤ u) (hs : slots ≤ 6 * u) (hd : decode cc pc = .ok (.ireturn, 1)) (hF : some ((.inl v : Int32 ⊕ Nat), z) = some (r, z')) :
    W p l e R s m args below meth c H locs cells slots (f_E below args s L Ar D b0 u (f_oi r) z') (F0 m pc ls [.int v]) := by
  cases hF
  exact f_endR (W.zret hx hb hr hn (fun t ht _ => ⟨rfl, by rw [ht]; exact hW, hS.F ht⟩) hS.2.2 hd hlk) hc hs
theorem hw_vretX {r : Unit ⊕ Nat} (hx : p.tables.exec = Jvm.exec) (hb : c.code = cc) (hr : meth.sig.returnType = none) (hlk : meth.locks = false) (hW : f_W L Ar D z H) (hS : va_S (f_A b0) s.heap H locs) (hc : cells ≤ u) (hs : slots ≤ 6 * u) (hd : decode cc pc = .ok (.return_, 1)) (hF : some ((.inl () : Unit ⊕ Nat), z) = some (r, z')) :
    W p l e R s m args below meth c H locs cells slots (f_E below args s L Ar D b0 u (f_ov r) z') (F0 m pc ls []) := by
  cases hF
  exact f_endR (W.vret hx hb hr (fun t ht _ => ⟨rfl, by rw [ht]; exact hW, hS.F ht⟩) hS.2.2 hd hlk) hc hs
/-- behind a call that returns -/
theorem hw_go {v : Option Value} {st0 : List Value} {uc : Nat} (hr : va_Run p l e R s m args below meth c H locs cells slots uc (6 * uc) (F0 m pc ls st0) rest (fun st oc t => oc = .returned v ∧ f_W L Ar D z' t.heap ∧ va_F (f_A b0) st t) (f_A b0)) (hS : va_S (f_A b0) s.heap H locs)
    (kk : ∀ (H1 : Heap) (locs1 : List Loc), f_W L Ar D z' H1 → va_S (f_A b0) s.heap H1 locs1 → W p l e R s m args below meth c H1 locs1 (cells + uc) (slots + 6 * uc) Q (F0 m (pc + 3) ls (v.toList ++ rest))) : W p l e R s m args below meth c H locs cells slots Q (F0 m pc ls st0) := by
  intro T hT X
  obtain ⟨v', st₀, t, T', Lc, h0, X', hL, e1, e2, ⟨hv, hw, hz, hk⟩, st⟩ := hr T hT X
  cases hv
  rw [h0] at hz hk
  obtain ⟨t2, a1, b1⟩ := kk T'.heap (locs ++ Lc) (by rw [e1]; exact hw)
    ⟨Nat.le_trans hS.1 (by rw [e1]; exact hz), fun q h1 h2 => by rw [e1, hk q (Nat.lt_of_lt_of_le h1 hS.1) h2]; exact hS.2.1 q h1 h2, fun q hq => by
      rcases List.mem_append.mp hq with h | h
      · exact hS.2.2 q h
      · exact hL q h⟩ T' rfl X'
  exact ⟨t2, st t2 a1, b1⟩
end FC
/-- a method's contract out of the walk of its body -/
theorem f_ofW {l : Launch} {y : MethodName} {ws : List Cond} {d u : Nat} {L : Nat → Nat → Nat} {Ar : Nat → ClassId} {D : va_G} {b0 : Nat} {as : List Value} {z z' : fST} {o : Option Value ⊕ Nat} {cc : ByteArray} {maxL : Nat} {ret : Option FieldType} (hy : plainName y.cls = true) (hcw : Cond.code y cc maxL ret ∈ ws) (hlen : (lg_sl as).length ≤ maxL)
    (body : ∀ (p : Program) (e : Env) (s : State) (m : MethodId) (args : Array Value) (below : List Frame) (meth : Method) (c : Code) (R : Room), R.frames = d → R.locals = 40 * d → R.cells = u → R.slots = 6 * u → p.tables.exec = Jvm.exec → c.code = cc → meth.sig.returnType = ret → meth.locks = false → c.maxLocals = maxL → (∀ x ∈ c.exceptionTable.toList, False) → (∀ w ∈ ws, w.before args s = true) → s.vm.findClass y.cls = some m.cls → f_K Ar D s → f_Z b0 s s.heap → b0 ≤ s.heap.size →
      f_B p l e R s m args below meth c L Ar D b0 maxL u (f_E below args s L Ar D b0 u o z') u 0 (lv_args 0 as) [] z) : f_C l y ws d u L Ar D b0 as z o z' := by
  refine MetFree.of_bodyS (code := cc) (maxLocals := maxL) (ret := ret) hy ?_ ?_
  · intro args s m h hn
    obtain ⟨meth, c, h1, h2, h3, h4, h5, h6, -, -⟩ := Cond.code_spec hn (atoms_spec (ws := ws) h _ hcw)
    exact ⟨meth, c, h1, h2, h3, h4, h5, h6⟩
  · intro p e s m args below meth c s₁ B hml hP _
    obtain ⟨rfl, hsz, hK, hZ, hW⟩ := hP
    have hts := atoms_spec (ws := ws) B.pre
    have hh0 : s₁.heap = s.heap := by rw [B.state]; rfl
    have hemp : c.exceptionTable.isEmpty = true := BodyLoose.noHandlers B (hts _ hcw)
    have hno : ∀ x ∈ c.exceptionTable.toList, False := by
      intro x hx
      rw [Array.isEmpty_iff.mp hemp] at hx
      cases hx
    have hB := body p e s m as.toArray below meth c (headSpec ws (f_rm d u)).room rfl rfl rfl rfl B.exec B.bytes B.returns B.notSynchronized hml hno hts (findClass_of_methodNamed B.named) hK hZ hsz s.heap [] _ 0 0 hW va_S.rf (lv_entry as hlen) (by omega) (by omega)
    rw [← lg_entry_eq (m := m)] at hB
    obtain ⟨t, a1, o', b1, b2, b3⟩ := hB s₁ hh0 (Stand.of_body B)
    exact ⟨t, o', a1, b1, b2, b3⟩
end
section
/-! The rows of the heap, over the flat memory: fields, arrays, the belt's row, the law's out, the script. -/
def f_fl (Ts : List Cond) (own : String) (index k j : Nat) : Prop := ∃ (ci : Nat) (C : String) (T : u_T) (N : Nat), f_ob k = some ci ∧ vwCl[ci]? = some (C, T, N) ∧ f_nf k = N ∧ j < N ∧ (∀ w ∈ u_ws C T N, w ∈ Ts) ∧ (T j).1 = C ∧ Cond.fieldLink own index C (T j).2.1 (T j).2.2.1 ∈ Ts ∧ k < 51
def f_fp (Ts : List Cond) (own : String) (index k j : Nat) (ty : FieldType) : Prop := ∃ (ci : Nat) (C : String) (T : u_T) (N : Nat) (ty0 : Nat → FieldType), f_ob k = some ci ∧ vwCl[ci]? = some (C, T, N) ∧ f_nf k = N ∧ j < N ∧ (∀ w ∈ u_ws C T N, w ∈ Ts) ∧ (T j).1 = C ∧ Cond.fieldLink own index C (T j).2.1 (T j).2.2.1 ∈ Ts ∧ k < 51 ∧ (∀ a, a < N → parseFieldDescriptor (T a).2.2.1 = some (ty0 a)) ∧ (∀ a, a < N → ∀ b, b < N → a ≠ b → (T a).2.1 ≠ (T b).2.1) ∧ (T j).2.2.2 = false ∧ parseFieldDescriptor (T j).2.2.1 = some ty ∧ f_ft k j = none
theorem f_nZ {x : Int32} (h : x = 0 ∨ x = 1) : narrow .boolean (.int x) = .int x := by
  rcases h with rfl | rfl <;> decide +kernel
theorem f_fZ (x : Int32) (h : x = 0 ∨ x = 1) : fits .boolean (.int x) = true := by
  rcases h with rfl | rfl <;> decide +kernel
section HW
variable {p : Program} {l : Launch} {e : Env} {R : Room} {s : State} {m : MethodId} {args : Array Value} {below : List Frame} {meth : Method} {c : Code} {H : Heap} {locs : List Loc} {cells slots : Nat} {Q : State → Prop}
variable {cc : ByteArray} {pc : Nat} {ls : Array Slot} {rest : List Value} {L : Nat → Nat → Nat} {Ar : Nat → ClassId} {D : va_G} {b0 : Nat} {z : fST} {Ts : List Cond} {own : String}
theorem hw_get {k i j n index : Nat} {v : Value} (hx : p.tables.exec = Jvm.exec) (hb : c.code = cc) (hts : ∀ w ∈ Ts, w.before args s = true) (hown : s.vm.findClass own = some m.cls) (hK : f_K Ar D s) (hW : f_W L Ar D z H) (fl : f_fl Ts own index k j) (hcn : f_cnt k = n) (hi : i < n) (hv : f_fv L z k i j = v) (hd : decode cc pc = .ok (.getfield index, 3))
    (kk : W p l e R s m args below meth c H locs cells slots Q (F0 m (pc + 3) ls (v :: rest))) : W p l e R s m args below meth c H locs cells slots Q (F0 m pc ls (.ref (L k i) :: rest)) := by
  subst hcn
  obtain ⟨ci, C, T, N, h1, h2, h3, h4, h5, h6, h7, h8⟩ := fl
  obtain ⟨q0, -, hq⟩ := f_pos (L := L) (Ar := Ar) (f_en_mem h8 hi)
  have he := hq z
  simp only [f_cell, h1] at he
  exact va_get hx hb hts h5 hown hK hW q0 he h2 j h4 (hts _ h7) (fun x hx => by rw [h6] at hx; exact hx) (by simp [h3, h4, hv]) hd kk
theorem hw_put {k i j n index : Nat} {v : Int32} {ty : FieldType} (hx : p.tables.exec = Jvm.exec) (hb : c.code = cc) (hts : ∀ w ∈ Ts, w.before args s = true) (hown : s.vm.findClass own = some m.cls) (hK : f_K Ar D s) (hLi : f_L L b0) (hW : f_W L Ar D z H) (hS : va_S (f_A b0) s.heap H locs) (fp : f_fp Ts own index k j ty) (hn : narrow ty (.int v) = .int v) (hfit : fits ty (.int v) = true) (hcn : f_cnt k = n) (hi : i < n) (hd : decode cc pc = .ok (.putfield index, 3))
    (kk : ∀ (H1 : Heap) (locs1 : List Loc), f_W L Ar D (f_pI z k i j v) H1 → va_S (f_A b0) s.heap H1 locs1 → W p l e R s m args below meth c H1 locs1 cells slots Q (F0 m (pc + 3) ls rest)) : W p l e R s m args below meth c H locs cells slots Q (F0 m pc ls (.int v :: .ref (L k i) :: rest)) := by
  subst hcn
  obtain ⟨ci, C, T, N, ty0, h1, h2, h3, h4, h5, h6, h7, h8, h9, h10, h11, h12, h13⟩ := fp
  obtain ⟨q0, hq0, hq⟩ := f_pos (L := L) (Ar := Ar) (f_en_mem h8 hi)
  have he := hq z
  simp only [f_cell, h1] at he
  refine va_put hx hb hts h5 ty0 h9 h10 hown hK hW (f_D hLi z) hS q0 he h2 j h4 (hts _ h7) (fun x hx => by rw [h6] at hx; exact hx) h11 h12 hn hfit (by simp [h3, h4]) hd (fun H1 locs1 hP1 _ hS1 => kk H1 locs1 ?_ hS1)
  have e : (f_ws L Ar z).set q0 (L k i, .inr (ci, ((List.range (f_nf k)).map (f_fv L z k i)).set j (.int v))) = f_ws L Ar (f_pI z k i j v) := by
    refine f_set hq0 ?_ (fun q _ hne => f_cell_pI hne)
    simp only [f_cell, h1]
    congr 2
    apply List.ext_getElem?
    intro a
    by_cases ha : a = j
    · subst ha
      rw [List.getElem?_set_self (by simp [h3, h4])]
      simp [h3, h4, f_fv, h13, f_gI, f_pI]
    · rw [List.getElem?_set_ne (Ne.symm ha)]
      simp only [List.getElem?_map]
      cases hb : (List.range (f_nf k))[a]? with
      | none => rfl
      | some b =>
        have hba : b = a := by
          have := List.getElem?_eq_some_iff.mp hb
          obtain ⟨h1, h2⟩ := this
          rw [List.getElem_range] at h2
          exact h2.symm
        subst hba
        simp only [Option.map_some, f_fv, f_gI, f_pI]
        rw [if_neg (fun q => ha q.2.2)]
  rw [e] at hP1
  exact hP1
theorem hw_iald {k i n len : Nat} {x : Int32} (hx : p.tables.exec = Jvm.exec) (hb : c.code = cc) (hK : f_K Ar D s) (hW : f_W L Ar D z H) (ha : f_ob k = none ∧ f_at k = 0 ∧ k < 51) (hcn : f_cnt k = n) (hi : i < n) (hlen : f_al k i = len) (hin : f_ib x len = true) (hd : decode cc pc = .ok (.iaload, 1))
    (kk : W p l e R s m args below meth c H locs cells slots Q (F0 m (pc + 1) ls (.int (f_gI z k i (f_ix x)) :: rest))) : W p l e R s m args below meth c H locs cells slots Q (F0 m pc ls (.int x :: .ref (L k i) :: rest)) := by
  subst hcn
  obtain ⟨q0, -, hq⟩ := f_pos (L := L) (Ar := Ar) (f_en_mem ha.2.2 hi)
  have he := hq z
  simp only [f_cell, ha.1, ha.2.1, hlen] at he
  exact va_iald hx hb hK hW q0 0 he rfl (f_ib_in hin) hd kk
theorem hw_zald {k i n len : Nat} {x : Int32} (hx : p.tables.exec = Jvm.exec) (hb : c.code = cc) (hK : f_K Ar D s) (hW : f_W L Ar D z H) (ha : f_ob k = none ∧ f_at k = 1 ∧ k < 51) (hcn : f_cnt k = n) (hi : i < n) (hlen : f_al k i = len) (hin : f_ib x len = true) (hd : decode cc pc = .ok (.baload, 1))
    (kk : W p l e R s m args below meth c H locs cells slots Q (F0 m (pc + 1) ls (.int (f_gI z k i (f_ix x)) :: rest))) : W p l e R s m args below meth c H locs cells slots Q (F0 m pc ls (.int x :: .ref (L k i) :: rest)) := by
  subst hcn
  obtain ⟨q0, -, hq⟩ := f_pos (L := L) (Ar := Ar) (f_en_mem ha.2.2 hi)
  have he := hq z
  simp only [f_cell, ha.1, ha.2.1, hlen] at he
  exact va_zald hx hb hK hW q0 1 he rfl (f_ib_in hin) hd kk
theorem f_updI {k i j : Nat} {v : Int32} : upd (f_gI z k i) j v = f_gI (f_pI z k i j v) k i := by
  funext a
  simp [upd, f_gI, f_pI]
theorem hw_iast {k i n len : Nat} {x v : Int32} (hx : p.tables.exec = Jvm.exec) (hb : c.code = cc) (hK : f_K Ar D s) (hLi : f_L L b0) (hW : f_W L Ar D z H) (hS : va_S (f_A b0) s.heap H locs) (ha : f_ob k = none ∧ f_at k = 0 ∧ k < 51) (hcn : f_cnt k = n) (hi : i < n) (hlen : f_al k i = len) (hin : f_ib x len = true) (hd : decode cc pc = .ok (.iastore, 1))
    (kk : ∀ (H1 : Heap) (locs1 : List Loc), f_W L Ar D (f_pI z k i (f_ix x) v) H1 → va_S (f_A b0) s.heap H1 locs1 → W p l e R s m args below meth c H1 locs1 cells slots Q (F0 m (pc + 1) ls rest)) : W p l e R s m args below meth c H locs cells slots Q (F0 m pc ls (.int v :: .int x :: .ref (L k i) :: rest)) := by
  subst hcn
  obtain ⟨q0, hq0, hq⟩ := f_pos (L := L) (Ar := Ar) (f_en_mem ha.2.2 hi)
  have he := hq z
  simp only [f_cell, ha.1, ha.2.1, hlen] at he
  refine va_iast hx hb hK hW (f_D hLi z) hS q0 0 he rfl (f_ib_in hin) hd (fun H1 locs1 hP1 _ hS1 => kk H1 locs1 ?_ hS1)
  have e : (f_ws L Ar z).set q0 (L k i, .inl (Ar 0, len, .inl (upd (f_gI z k i) (f_ix x) v))) = f_ws L Ar (f_pI z k i (f_ix x) v) := by
    refine f_set hq0 ?_ (fun q _ hne => f_cell_pI hne)
    simp only [f_cell, ha.1, ha.2.1, hlen]
    rw [f_updI]
  show va_P D vwCl (f_ws L Ar (f_pI z k i (f_ix x) v)) H1
  rw [← e]
  exact hP1
theorem hw_zast {k i n len : Nat} {x v : Int32} (hx : p.tables.exec = Jvm.exec) (hb : c.code = cc) (hK : f_K Ar D s) (hLi : f_L L b0) (hW : f_W L Ar D z H) (hS : va_S (f_A b0) s.heap H locs) (ha : f_ob k = none ∧ f_at k = 1 ∧ k < 51) (hcn : f_cnt k = n) (hi : i < n) (hlen : f_al k i = len) (hin : f_ib x len = true) (hv : v = 0 ∨ v = 1) (hd : decode cc pc = .ok (.bastore, 1))
    (kk : ∀ (H1 : Heap) (locs1 : List Loc), f_W L Ar D (f_pI z k i (f_ix x) v) H1 → va_S (f_A b0) s.heap H1 locs1 → W p l e R s m args below meth c H1 locs1 cells slots Q (F0 m (pc + 1) ls rest)) : W p l e R s m args below meth c H locs cells slots Q (F0 m pc ls (.int v :: .int x :: .ref (L k i) :: rest)) := by
  subst hcn
  obtain ⟨q0, hq0, hq⟩ := f_pos (L := L) (Ar := Ar) (f_en_mem ha.2.2 hi)
  have he := hq z
  simp only [f_cell, ha.1, ha.2.1, hlen] at he
  have hvn : vp_nar .boolean v = v := by
    unfold vp_nar
    rw [f_nZ hv]
  refine va_zast hx hb hK hW (f_D hLi z) hS q0 1 he rfl (f_ib_in hin) hd (fun H1 locs1 hP1 _ hS1 => kk H1 locs1 ?_ hS1)
  rw [hvn] at hP1
  have e : (f_ws L Ar z).set q0 (L k i, .inl (Ar 1, len, .inl (upd (f_gI z k i) (f_ix x) v))) = f_ws L Ar (f_pI z k i (f_ix x) v) := by
    refine f_set hq0 ?_ (fun q _ hne => f_cell_pI hne)
    simp only [f_cell, ha.1, ha.2.1, hlen]
    rw [f_updI]
  show va_P D vwCl (f_ws L Ar (f_pI z k i (f_ix x) v)) H1
  rw [← e]
  exact hP1
end HW
section HW2
variable {p : Program} {l : Launch} {e : Env} {R : Room} {s : State} {m : MethodId} {args : Array Value} {below : List Frame} {meth : Method} {c : Code} {H : Heap} {locs : List Loc} {cells slots : Nat} {Q : State → Prop}
variable {cc : ByteArray} {pc : Nat} {ls : Array Slot} {rest : List Value} {L : Nat → Nat → Nat} {Ar : Nat → ClassId} {D : va_G} {b0 : Nat} {z : fST} {Ts : List Cond} {own : String}
theorem hw_alen {k i n len : Nat} (hx : p.tables.exec = Jvm.exec) (hb : c.code = cc) (hK : f_K Ar D s) (hW : f_W L Ar D z H) (ha : f_ob k = none ∧ f_at k = 0 ∧ k < 51) (hcn : f_cnt k = n) (hi : i < n) (hlen : f_al k i = len) (hd : decode cc pc = .ok (.arraylength, 1))
    (kk : W p l e R s m args below meth c H locs cells slots Q (F0 m (pc + 1) ls (.int (nI len) :: rest))) : W p l e R s m args below meth c H locs cells slots Q (F0 m pc ls (.ref (L k i) :: rest)) := by
  subst hcn
  obtain ⟨q0, -, hq⟩ := f_pos (L := L) (Ar := Ar) (f_en_mem ha.2.2 hi)
  have he := hq z
  simp only [f_cell, ha.1, ha.2.1, hlen] at he
  exact va_alen hx hb hK hW q0 0 he rfl rfl hd kk
theorem hw_rlen (hx : p.tables.exec = Jvm.exec) (hb : c.code = cc) (hK : f_K Ar D s) (hW : f_W L Ar D z H) (hd : decode cc pc = .ok (.arraylength, 1))
    (kk : W p l e R s m args below meth c H locs cells slots Q (F0 m (pc + 1) ls (.int (nI 16) :: rest))) : W p l e R s m args below meth c H locs cells slots Q (F0 m pc ls (.ref (L 12 0) :: rest)) := by
  obtain ⟨q0, -, hq⟩ := f_pos (L := L) (Ar := Ar) (f_en_mem (k := 12) (i := 0) (by decide) (by decide))
  have he := hq z
  simp only [f_cell, show f_ob 12 = none from rfl, show f_at 12 = 3 from rfl] at he
  exact va_alen hx hb hK hW q0 3 he rfl rfl hd kk
theorem hw_rald {x : Int32} (hx : p.tables.exec = Jvm.exec) (hb : c.code = cc) (hK : f_K Ar D s) (hW : f_W L Ar D z H) (hin : f_ib x 16 = true) (hd : decode cc pc = .ok (.aaload, 1))
    (kk : W p l e R s m args below meth c H locs cells slots Q (F0 m (pc + 1) ls (.ref (L 13 (f_gR z (f_ix x))) :: rest))) : W p l e R s m args below meth c H locs cells slots Q (F0 m pc ls (.int x :: .ref (L 12 0) :: rest)) := by
  obtain ⟨q0, -, hq⟩ := f_pos (L := L) (Ar := Ar) (f_en_mem (k := 12) (i := 0) (by decide) (by decide))
  have he := hq z
  simp only [f_cell, show f_ob 12 = none from rfl, show f_at 12 = 3 from rfl] at he
  exact va_aldq hx hb hK hW q0 3 he rfl (f_ib_in hin) hd kk
theorem hw_wald {x : Int32} (hx : p.tables.exec = Jvm.exec) (hb : c.code = cc) (hK : f_K Ar D s) (hW : f_W L Ar D z H) (hin : f_ib x 8 = true) (hd : decode cc pc = .ok (.aaload, 1))
    (kk : W p l e R s m args below meth c H locs cells slots Q (F0 m (pc + 1) ls (.ref (L 9 (f_ix x)) :: rest))) : W p l e R s m args below meth c H locs cells slots Q (F0 m pc ls (.int x :: .ref (L 8 0) :: rest)) := by
  obtain ⟨q0, -, hq⟩ := f_pos (L := L) (Ar := Ar) (f_en_mem (k := 8) (i := 0) (by decide) (by decide))
  have he := hq z
  simp only [f_cell, show f_ob 8 = none from rfl, show f_at 8 = 4 from rfl] at he
  have hlt : x.toNatClampNeg < 8 := f_ib_lt hin
  have hK2 := (hK.2 4 (Ar 4, .array .int) rfl).1
  exact W.aald (v := .ref (L 9 (f_ix x))) (ty := .array .int) hx hb (hW q0 _ he) (hK2 8 (fun j => va_rf (some (L 9 j)))) rfl (fun q => by cases q) (by show ¬ (x < 0 ∨ (arrV _ _ _).slots.size ≤ _); rw [arrV_size]; exact f_ib_in hin) (by show (arrV _ _ _).slots[_]? = _; rw [arrV_read _ _ hlt]; rfl) rfl rfl hd kk
theorem f_cell_pR {a n : Nat} {q : Nat × Nat} (hq : q ∈ f_en) (h : q ≠ (12, 0)) : f_cell L Ar (f_pR z a n) q.1 q.2 = f_cell L Ar z q.1 q.2 := by
  have hlt := f_en_lt hq
  have e1 : f_gI (f_pR z a n) = f_gI z := rfl
  have e2 : f_gO (f_pR z a n) = f_gO z := rfl
  have e3 : f_fv L (f_pR z a n) = f_fv L z := rfl
  unfold f_cell
  rw [e1, e2, e3]
  cases ho : f_ob q.1 with
  | some ci => rfl
  | none =>
    by_cases h12 : q.1 = 12
    · exfalso
      apply h
      obtain ⟨k, i⟩ := q
      simp only at h12 hlt
      subst h12
      have : i = 0 := by
        have : f_cnt 12 = 1 := rfl
        omega
      rw [this]
    · have h3 : f_at q.1 ≠ 3 := by
        intro h3
        unfold f_at at h3
        split at h3
        · exact h12 (by assumption)
        · split at h3 <;> (try split at h3) <;> (try split at h3) <;> simp at h3
      match hm : f_at q.1 with
      | 0 => rfl
      | 1 => rfl
      | 2 => rfl
      | 3 => exact absurd hm h3
      | n + 4 => rfl
theorem hw_rast {x : Int32} {i : Nat} (hx : p.tables.exec = Jvm.exec) (hb : c.code = cc) (hK : f_K Ar D s) (hLi : f_L L b0) (hW : f_W L Ar D z H) (hS : va_S (f_A b0) s.heap H locs) (hi : i < 16) (hin : f_ib x 16 = true) (hd : decode cc pc = .ok (.aastore, 1))
    (kk : ∀ (H1 : Heap) (locs1 : List Loc), f_W L Ar D (f_pR z (f_ix x) i) H1 → va_S (f_A b0) s.heap H1 locs1 → W p l e R s m args below meth c H1 locs1 cells slots Q (F0 m (pc + 1) ls rest)) : W p l e R s m args below meth c H locs cells slots Q (F0 m pc ls (.ref (L 13 i) :: .int x :: .ref (L 12 0) :: rest)) := by
  obtain ⟨q0, hq0, hq⟩ := f_pos (L := L) (Ar := Ar) (f_en_mem (k := 12) (i := 0) (by decide) (by decide))
  have he := hq z
  simp only [f_cell, show f_ob 12 = none from rfl, show f_at 12 = 3 from rfl] at he
  obtain ⟨qk, -, hqk⟩ := f_pos (L := L) (Ar := Ar) (f_en_mem (k := 13) (i := i) (by decide) hi)
  have hek := hqk z
  simp only [f_cell, show f_ob 13 = some 3 from rfl] at hek
  refine va_astq hx hb hK hW (f_D hLi z) hS q0 3 qk 3 (r := ("BottleReturn$Container", T_co, 9)) he rfl hek rfl (f_ib_in hin) hd (fun H1 locs1 hP1 _ hS1 => kk H1 locs1 ?_ hS1)
  have e : (f_ws L Ar z).set q0 (L 12 0, .inl (Ar 3, 16, .inr (.inr (.inr (.inr (va_up (fun j => some (L 13 (f_gR z j))) (f_ix x) (some (L 13 i)))))))) = f_ws L Ar (f_pR z (f_ix x) i) := by
    refine f_set hq0 ?_ (fun q hq hne => f_cell_pR hq hne)
    simp only [f_cell, show f_ob 12 = none from rfl, show f_at 12 = 3 from rfl]
    congr 7
    funext j
    simp only [va_up, f_gR, f_pR]
    split <;> rfl
  show va_P D vwCl (f_ws L Ar (f_pR z (f_ix x) i)) H1
  rw [← e]
  exact hP1
theorem f_cell_pO {v : Int64} {q : Nat × Nat} (hq : q ∈ f_en) (h : q ≠ (50, 0)) : f_cell L Ar (f_pO z v) q.1 q.2 = f_cell L Ar z q.1 q.2 := by
  have hlt := f_en_lt hq
  have e1 : f_gI (f_pO z v) = f_gI z := rfl
  have e2 : f_gR (f_pO z v) = f_gR z := rfl
  have e3 : f_fv L (f_pO z v) = f_fv L z := rfl
  unfold f_cell
  rw [e1, e2, e3]
  cases ho : f_ob q.1 with
  | some ci => rfl
  | none =>
    by_cases h12 : q.1 = 50
    · exfalso
      apply h
      obtain ⟨k, i⟩ := q
      simp only at h12 hlt
      subst h12
      have : i = 0 := by
        have : f_cnt 50 = 1 := rfl
        omega
      rw [this]
    · have h3 : f_at q.1 ≠ 2 := by
        intro h3
        unfold f_at at h3
        split at h3
        · simp at h3
        · split at h3
          · simp at h3
          · split at h3 <;> simp at h3
      match hm : f_at q.1 with
      | 0 => rfl
      | 1 => rfl
      | 2 => exact absurd hm h3
      | 3 => rfl
      | n + 4 => rfl
theorem hw_lald (hx : p.tables.exec = Jvm.exec) (hb : c.code = cc) (hK : f_K Ar D s) (hW : f_W L Ar D z H) (hd : decode cc pc = .ok (.laload, 1))
    (kk : W p l e R s m args below meth c H locs cells slots Q (F0 m (pc + 1) ls (.long (f_gO z) :: rest))) : W p l e R s m args below meth c H locs cells slots Q (F0 m pc ls (.int 0 :: .ref (L 50 0) :: rest)) := by
  obtain ⟨q0, -, hq⟩ := f_pos (L := L) (Ar := Ar) (f_en_mem (k := 50) (i := 0) (by decide) (by decide))
  have he := hq z
  simp only [f_cell, show f_ob 50 = none from rfl, show f_at 50 = 2 from rfl] at he
  exact va_lald hx hb hK hW q0 2 he rfl (f_ib_in (show f_ib 0 1 = true by decide)) hd kk
theorem hw_last {v : Int64} (hx : p.tables.exec = Jvm.exec) (hb : c.code = cc) (hK : f_K Ar D s) (hLi : f_L L b0) (hW : f_W L Ar D z H) (hS : va_S (f_A b0) s.heap H locs) (hd : decode cc pc = .ok (.lastore, 1))
    (kk : ∀ (H1 : Heap) (locs1 : List Loc), f_W L Ar D (f_pO z v) H1 → va_S (f_A b0) s.heap H1 locs1 → W p l e R s m args below meth c H1 locs1 cells slots Q (F0 m (pc + 1) ls rest)) : W p l e R s m args below meth c H locs cells slots Q (F0 m pc ls (.long v :: .int 0 :: .ref (L 50 0) :: rest)) := by
  obtain ⟨q0, hq0, hq⟩ := f_pos (L := L) (Ar := Ar) (f_en_mem (k := 50) (i := 0) (by decide) (by decide))
  have he := hq z
  simp only [f_cell, show f_ob 50 = none from rfl, show f_at 50 = 2 from rfl] at he
  refine va_last hx hb hK hW (f_D hLi z) hS q0 2 he rfl (f_ib_in (show f_ib 0 1 = true by decide)) hd (fun H1 locs1 hP1 hD1 hS1 => kk H1 locs1 ?_ hS1)
  obtain ⟨hE1, hE2⟩ : True ∧ True := ⟨trivial, trivial⟩
  have hset := f_set (L := L) (Ar := Ar) (z := z) (z' := f_pO z v) hq0 rfl (fun q hq hne => f_cell_pO hq hne)
  intro k q hk
  by_cases h0 : k = q0
  · subst h0
    have hlt : k < (f_ws L Ar z).length := (List.getElem?_eq_some_iff.mp he).1
    have h1 := hP1 k _ (List.getElem?_set_self hlt)
    rw [← hset, List.getElem?_set_self hlt] at hk
    cases hk
    have h1' : H1[L 50 0]? = some (vp_cell (Ar 2) (1, .inr (.inl (vp_updL (fun _ => f_gO z) (0 : Int32).toNatClampNeg v)))) := h1
    show H1[L 50 0]? = some (vp_cell (Ar 2) (1, .inr (.inl (fun _ => f_gO (f_pO z v)))))
    rw [h1', vp_cell_l, vp_cell_l]
    congr 1
  · rw [← hset, List.getElem?_set_ne (Ne.symm h0)] at hk
    exact hP1 k q (by rw [List.getElem?_set_ne (Ne.symm h0)]; exact hk)
end HW2
end
section
/-! A throw: 'throw new E()' ends the method; the heap is as it was, and one cell more. -/
section FT
variable {p : Program} {l : Launch} {e : Env} {R : Room} {s : State} {m : MethodId} {args : Array Value} {below : List Frame} {meth : Method} {c : Code} {T : State} {H : Heap} {locs : List Loc} {cells slots : Nat}
/-- the walk as if the method had just begun, at the heap that stands now -/
theorem f_rebase (X : Stand p l e R s m args below meth c T locs cells slots) {R' : Room} (h1 : R'.frames ≤ R.frames) (h2 : R'.locals ≤ R.locals) (h3 : cells + R'.cells ≤ R.cells) (h4 : slots + R'.slots ≤ R.slots) :
    Stand p l e R' ((T.setVm s.vm).setFrames (.invoking m args :: below)) m args below meth c T [] 0 0 := by
  obtain ⟨g₀, hfr⟩ := X.frames_eq
  have hcur : T.cur < T.threads.size := State.cur_lt_of_frames hfr
  have hcur' : (T.setVm s.vm).cur < (T.setVm s.vm).threads.size := hcur
  have hf : ((T.setVm s.vm).setFrames (.invoking m args :: below)).frames = .invoking m args :: below := State.frames_setFrames _ hcur'
  have hme : e.platform.stackLimits ((T.setVm s.vm).setFrames (.invoking m args :: below)).me = e.platform.stackLimits T.me := by
    rw [State.stackLimits_setFrames]; rfl
  have hby : ((T.setVm s.vm).setFrames (.invoking m args :: below)).me.stackBytes = T.me.stackBytes := by
    rw [State.stackBytes_setFrames]; rfl
  have hli : ((T.setVm s.vm).setFrames (.invoking m args :: below)).localsInUse = s.localsInUse := by
    rw [State.localsInUse_invoking hf (show ((T.setVm s.vm).setFrames (.invoking m args :: below)).vm.method? m = some meth from X.method) X.code, State.localsInUse_invoking X.frames X.method X.code]
  refine ⟨X.admits, X.cas, X.clock, hf, ?_, ?_, X.method, X.code, X.here, X.tail, X.warmed, by rw [hme], by rw [hby], ?_⟩
  · have hr := X.room
    have hz := X.heapSize
    have hu := X.used
    have hb := X.book
    have hl := X.limits
    have hb2 := X.bytes
    simp only [State.hasRoom, Bool.and_eq_true, decide_eq_true_eq] at hr ⊢
    rw [hli, hf, hme, hby]
    rw [X.frames] at hr
    rw [hl, hb2]
    refine ⟨⟨⟨⟨?_, ?_⟩, ?_⟩, ?_⟩, ?_⟩
    · have := hr.1.1.1.1
      omega
    · obtain ⟨q1, q2, q3, q4, q5⟩ := hr.1.1.1.2
      exact ⟨by omega, by omega, by omega, by omega, q5⟩
    · have := hr.1.1.2
      show T.heap.size + R'.cells ≤ _
      omega
    · have := hr.1.2
      show T.slotsUsed + R'.slots ≤ _
      omega
    · exact hb
  · exact X.hears
  · refine ⟨?_, Nat.le_refl _, Nat.le_refl _, ?_, ?_, ?_⟩
    · obtain ⟨th, hth, -⟩ := State.frames_cons hfr
      rw [State.setFrames_setFrames]
      show T.setVm s.vm = { (T.setVm s.vm).setFrames T.frames with heap := T.heap, slotsUsed := T.slotsUsed }
      rw [show (T.setVm s.vm).setFrames T.frames = T.setVm s.vm from State.setFrames_self (s := T.setVm s.vm) hth]
      rfl
    · show T.slotsUsed = T.slotsUsed + ((T.heap.toList.drop T.heap.size).map (·.slots.size)).sum
      rw [List.drop_eq_nil_of_le (by rw [Array.length_toList]; exact Nat.le_refl _)]
      rfl
    · show ((T.heap.toList.drop T.heap.size).map (·.slots.size)).sum ≤ 0
      rw [List.drop_eq_nil_of_le (by rw [Array.length_toList]; exact Nat.le_refl _)]
      exact Nat.le_refl _
    · intro a cl hcl
      exact ⟨cl, hcl, rfl, rfl, fun _ _ => rfl⟩
theorem f_thr0 {cc : ByteArray} {pc ik ic : Nat} {own cls : String} {names : List String} {ls : Array Slot} {rest : List Value} (X : Stand p l e R s m args below meth c T [] 0 0) (hh : s.heap = T.heap) (hx : p.tables.exec = Jvm.exec) (hb : c.code = cc) (htr : e.platform.stackTraces = false) (hown : s.vm.findClass own = some m.cls) (hcls : Bundle.fit cls = true) (hnames : ∀ n ∈ names, Bundle.fit n = true)
    (hk : (Cond.classLink own ik cls).before args s = true) (hini : (Cond.initialized cls).before args s = true) (h : ∀ a ∈ Bundle.ownAtoms0 own ic cls names, a.before args s = true) (hsize : ls.size = c.maxLocals)
    (d0 : decode cc pc = .ok (.new ik, 3)) (d3 : decode cc (pc + 3) = .ok (.dup, 1)) (d4 : decode cc (pc + 4) = .ok (.invokespecial ic, 3)) (d7 : decode cc (pc + 7) = .ok (.athrow, 1))
    (hout : ∀ x ∈ c.exceptionTable.toList, covers x (pc + 7) = false) (hlk : meth.locks = false) (hRf : names.length + 3 < R.frames) (hRl : (rest.map fun v => v.category).sum + (13 * (names.length + 1) + 42) ≤ R.locals) (hRc : 1 ≤ R.cells) (hRs : 6 ≤ R.slots) :
    ∃ (U : State) (a : Addr) (ce : Cell), Steps p.tables e below (T.setTop (F0 m pc ls rest)) U ∧ U.status = .running ∧ Ended U below (.threw a) ∧ s.WarmedH U.vm ∧ s.sameButNew ({ U with vm := s.vm } : State) [] 1 6 ∧ U.heap[a]? = some ce ∧ ce.vm = .none ∧ s.vm.findClass cls = some ce.cls := by
  have hW : W p l e R s m args below meth c T.heap [] 0 0 (fun U => ∃ (a : Addr) (ce : Cell), U.status = .running ∧ Ended U below (.threw a) ∧ s.WarmedH U.vm ∧ s.sameButNew ({ U with vm := s.vm } : State) [] 1 6 ∧ U.heap[a]? = some ce ∧ ce.vm = .none ∧ s.vm.findClass cls = some ce.cls) (F0 m pc ls rest) := by
    refine W.newc hx hb hown hk (h (.instantiable cls 6) (by simp [Bundle.ownAtoms0])) hini rfl d0 (by omega) (by omega) (fun cC kC g1 g2 g3 g4 => ?_)
    refine lv_dup hx hb d3 rfl ?_
    intro T1 hT1 X1
    have hc1 : T1.heap[T.heap.size]? = some (freshCell cC kC) := by
      rw [hT1]
      simp [freshCell]
    obtain ⟨U, st, k1, k2, k3, k4, ce, k5, k6⟩ := X1.ctorThrow0 hx htr hown hcls hnames h (fun x hx => by cases hx) (a := T.heap.size) g1 g2 hc1 (by rw [hh]; exact Nat.le_refl _) (g := F0 m (pc + 3 + 1) ls (.ref T.heap.size :: .ref T.heap.size :: rest)) rfl hsize rfl rfl (rest := rest) rfl (by rw [hb]; exact d4) (by rw [hb]; exact d7) hout hRf (by show 2 * 0 + (1 + (rest.map fun v => v.category).sum) + _ ≤ _; omega) hlk
    exact ⟨U, st, T.heap.size, ce, k1, k2, k3, k4, k5, k6.vm, k6.cls⟩
  obtain ⟨U, st, a, ce, r⟩ := hW T rfl X
  exact ⟨U, a, ce, st, r⟩
end FT
section FT2
variable {p : Program} {l : Launch} {e : Env} {R : Room} {s : State} {m : MethodId} {args : Array Value} {below : List Frame} {meth : Method} {c : Code} {H : Heap} {locs : List Loc} {cells slots : Nat}
variable {L : Nat → Nat → Nat} {Ar : Nat → ClassId} {D : va_G} {b0 u : Nat} {z z' : fST} {Ts : List Cond} {own : String}
/-- the words of 'throw new E()' at this place -/
def f_tw (Ts : List Cond) (own : String) (ik ic n : Nat) : Prop := Cond.classLink own ik (f_exc n) ∈ Ts ∧ Cond.initialized (f_exc n) ∈ Ts ∧ (∀ w ∈ Bundle.ownAtoms0 own ic (f_exc n) ["java/lang/RuntimeException", "java/lang/Exception"], w ∈ f_zw ∨ (w ∈ Ts ∧ w.onTables = true) ∨ (w ∈ tables_1 ∧ f_kn w = true)) ∧ Bundle.fit (f_exc n) = true
theorem hw_throw {α : Type} {g : α ⊕ Nat → Option Value ⊕ Nat} {r : α ⊕ Nat} {n ik ic pc nL : Nat} {cc : ByteArray} {ls : Array Slot} {rest : List Value} (hl0 : l.stackTraces = false) (hx : p.tables.exec = Jvm.exec) (hb : c.code = cc) (hts : ∀ w ∈ Ts, w.before args s = true) (hown : s.vm.findClass own = some m.cls) (hlk : meth.locks = false) (hml : c.maxLocals = nL) (hno : ∀ x ∈ c.exceptionTable.toList, False) (hZ : f_Z b0 s s.heap) (hsz : b0 ≤ s.heap.size)
    (hg : g (.inr n) = .inr n) (hw : f_tw Ts own ik ic n) (hW : f_W L Ar D z H) (hS : va_S (f_A b0) s.heap H locs) (hsize : ls.size = nL) (d0 : decode cc pc = .ok (.new ik, 3)) (d3 : decode cc (pc + 3) = .ok (.dup, 1)) (d4 : decode cc (pc + 4) = .ok (.invokespecial ic, 3)) (d7 : decode cc (pc + 7) = .ok (.athrow, 1))
    (hRf : 5 < R.frames) (hRl : (rest.map fun v => v.category).sum + 81 ≤ R.locals) (hc : cells + 1 ≤ u) (hs : slots + 6 ≤ 6 * u) (hRc : cells + 1 ≤ R.cells) (hRs : slots + 6 ≤ R.slots) (hF : some ((.inr n : α ⊕ Nat), z) = some (r, z')) :
    W p l e R s m args below meth c H locs cells slots (f_E below args s L Ar D b0 u (g r) z') (F0 m pc ls rest) := by
  cases hF
  rw [hg]
  intro T hT X
  have htr : e.platform.stackTraces = false := (show e.platform.stackTraces = l.stackTraces by rw [X.admits.platform]).trans hl0
  have Y := f_rebase X (R' := { frames := R.frames, locals := R.locals, cells := 1, slots := 6 }) (Nat.le_refl _) (Nat.le_refl _) hRc hRs
  obtain ⟨s', hs'⟩ : ∃ q, q = (T.setVm s.vm).setFrames (.invoking m args :: below) := ⟨_, rfl⟩
  rw [← hs'] at Y
  have hvm : s'.vm = s.vm := by rw [hs']; rfl
  have hhp : s'.heap = T.heap := by rw [hs']; rfl
  have tab : ∀ w ∈ Ts, w.onTables = true → w.before args s' = true := fun w h1 h2 => va_tabs h2 hvm.symm (hts w h1)
  have hzw : ∀ w ∈ f_zw, w.before args s' = true := by
    refine hZ.1 args s' (by rw [hvm]; exact Vm.Alike.refl _) ?_
    intro q hq
    rw [hhp, hT]
    exact hS.2.1 q (Nat.lt_of_lt_of_le hq hsz) (fun h => Nat.not_le.mpr hq h)
  obtain ⟨U, a, ce, st, h1, h2, h3, h4, h5, h6, h7⟩ := f_thr0 (names := ["java/lang/RuntimeException", "java/lang/Exception"]) (rest := rest) Y hhp hx hb htr (by rw [hvm]; exact hown) hw.2.2.2 (by decide) (tab _ hw.1 rfl) (tab _ hw.2.1 rfl)
    (fun w h => by
      rcases hw.2.2.1 w h with h | ⟨h, h'⟩ | ⟨h, h'⟩
      · exact hzw w h
      · exact tab w h h'
      · exact va_tabs (f_kn_on h') hvm.symm (hZ.2.1 w h h')) (hsize.trans hml.symm) d0 d3 d4 d7 (fun x hx => (hno x hx).elim) hlk hRf (show _ + (13 * (2 + 1) + 42) ≤ R.locals from hRl) (Nat.le_refl _) (Nat.le_refl _)
  have hkeep : ∀ q : Nat, q < T.heap.size → U.heap[q]? = T.heap[q]? := by
    intro q hq
    obtain ⟨cq, hcq⟩ : ∃ x, T.heap[q]? = some x := ⟨_, Array.getElem?_eq_getElem hq⟩
    obtain ⟨c', e1, e2, e3, e4⟩ := h4.2.2.2.2.2 q cq (by rw [hhp]; exact hcq)
    have e1' : U.heap[q]? = some c' := e1
    have : c'.slots = cq.slots := Array.ext_getElem? (fun i => e4 i (by simp))
    rw [e1', hcq, e2, this]
  have hsz2 : T.heap.size ≤ U.heap.size := by
    have := h4.2.1
    rw [hhp] at this
    exact this
  have hsame := X.same
  refine ⟨U, st, _, h1, h2, ⟨a, ce, rfl, h5, h6, by rw [← hvm]; exact h7⟩, ?_, ?_, ?_⟩
  · intro k q hk
    have hq := hW k q hk
    refine va_at.kept hq ?_
    have hlt := hq.lt
    rw [← hT] at hlt ⊢
    exact hkeep _ hlt
  · refine ⟨Nat.le_trans hS.1 (by rw [← hT]; exact hsz2), fun q q1 q2 => ?_⟩
    rw [hkeep q (by rw [hT]; exact Nat.lt_of_lt_of_le q1 hS.1), hT]
    exact hS.2.1 q q1 q2
  · have h4' : (T.setVm s.vm).sameButNew ({ U with vm := s.vm } : State) [] 1 6 := by
      subst hs'
      obtain ⟨a1, a2, a3, a4, a5, a6⟩ := h4
      refine ⟨?_, a2, a3, a4, a5, a6⟩
      rw [State.setFrames_setFrames] at a1
      exact a1
    refine ⟨locs, by subst hs'; exact h3, ?_, hS.2.2⟩
    exact (X.same.trans h4').weaken (fun x hx _ => by simpa using hx) hc hs
end FT2
end
section
/-! Calls whose callee throws: what comes to the caller; it leaves the caller too, or is caught. -/
section FX
variable {p : Program} {l : Launch} {e : Env} {R : Room} {s : State} {m : MethodId} {args : Array Value} {below : List Frame} {meth : Method} {c : Code} {T : State} {H : Heap} {locs : List Loc} {cells slots : Nat} {Q : State → Prop}
variable {L : Nat → Nat → Nat} {Ar : Nat → ClassId} {D : va_G} {b0 u : Nat} {z z' : fST} {y : MethodName} {ws : List Cond} {d n : Nat} {as : List Value}
theorem f_Pc_blind (L : Nat → Nat → Nat) (Ar : Nat → ClassId) (D : va_G) (b0 : Nat) (as : List Value) (z : fST) : FrameBlind (f_Pc L Ar D b0 as z) :=
  fun a U g mk q => ⟨q.1, q.2.1, va_K.moved (u := U) (U := U.calling g mk a) (Vm.Alike.refl U.vm) q.2.2.1, f_Z.moved (u := U) (U := U.calling g mk a) (State.WarmedH.refl U) q.2.2.2.1, q.2.2.2.2⟩
theorem f_Pc_at (hK : f_K Ar D s) (hZ : f_Z b0 s s.heap) (hsz : b0 ≤ s.heap.size) (hS : va_S (f_A b0) s.heap H locs) (hW : f_W L Ar D z H) {U : State} (hU : U.heap = H) (hWm : s.WarmedH U.vm) : f_Pc L Ar D b0 as z as.toArray U := by
  refine ⟨rfl, by rw [hU]; exact Nat.le_trans hsz hS.1, va_K.moved hWm.alike hK, ?_, by rw [hU]; exact hW⟩
  refine (hZ.moved hWm).kept ?_
  intro q hq
  rw [hU]
  exact hS.2.1 q (Nat.lt_of_lt_of_le hq hsz) (fun h => Nat.not_le.mpr hq h)
theorem hw_preS (hK : f_K Ar D s) (hZ : f_Z b0 s s.heap) (hsz : b0 ≤ s.heap.size) (hS : va_S (f_A b0) s.heap H locs) (hW : f_W L Ar D z H) : PreS s H (f_Pc L Ar D b0 as z) as :=
  ⟨f_Pc_blind L Ar D b0 as z, fun U hU hWm => f_Pc_at hK hZ hsz hS hW hU hWm⟩
theorem f_recv {k i ci N : Nat} {C : String} {T : u_T} (hK : f_K Ar D s) (hW : f_W L Ar D z H) (hk : k < 51) (hi : i < f_cnt k) (h1 : f_ob k = some ci) (h2 : vwCl[ci]? = some (C, T, N)) : ∃ cellB : Cell, H[L k i]? = some cellB ∧ cellB.vm.isStatics = false ∧ s.vm.findClass C = some cellB.cls := by
  obtain ⟨q0, -, hq⟩ := f_pos (L := L) (Ar := Ar) (f_en_mem hk hi)
  have he := hq z
  simp only [f_cell, h1] at he
  obtain ⟨r, g0, cell, g1, g2, g3, -⟩ := hW q0 _ he
  refine ⟨cell, g1, by rw [g3]; rfl, ?_⟩
  rw [g2]
  exact (hK.1 ci _ h2).2.1
theorem hw_preV {k i ci N : Nat} {C : String} {T : u_T} (hK : f_K Ar D s) (hZ : f_Z b0 s s.heap) (hsz : b0 ≤ s.heap.size) (hS : va_S (f_A b0) s.heap H locs) (hW : f_W L Ar D z H) (hk : k < 51) (hi : i < f_cnt k) (h1 : f_ob k = some ci) (h2 : vwCl[ci]? = some (C, T, N)) : PreV s H C (L k i) (f_Pc L Ar D b0 (.ref (L k i) :: as) z) as :=
  ⟨f_Pc_blind L Ar D b0 _ z, f_recv hK hW hk hi h1 h2, fun U hU hWm => f_Pc_at hK hZ hsz hS hW hU hWm⟩
theorem f_callT (X : Stand p l e R s m args below meth c T locs cells slots) (hC : f_C l y ws d u L Ar D b0 as z (.inr n) z') {g : JFrame} (hg : g.method = m) (hsize : g.locals.size = c.maxLocals) {ig : Instr} {len : Nat} (hdg : decode c.code g.pc = .ok (ig, len)) (hWt : 2 * g.monitorRoom + (g.stack.map fun v => v.category).sum ≤ 8) {mk : MethodId} (hn : T.methodNamed? y = some mk)
    {bytes : ByteArray} {maxL : Nat} {ret : Option FieldType} (hcode : (Cond.code y bytes maxL ret).before as.toArray T = true) (hini : (Cond.initialized y.cls).before as.toArray T = true) (hws : ∀ w ∈ ws, w.before as.toArray T = true) (hfr : d + 1 ≤ R.frames) (hlo : 8 + (maxL + 11) + 40 * d ≤ R.locals) (hc : cells + u ≤ R.cells) (hs : slots + 6 * u ≤ R.slots) (hP : f_Pc L Ar D b0 as z as.toArray T) :
    ∃ (q : Addr) (T' : State) (Lc : List Loc) (ce : Cell), Stand p l e R s m args below meth c T' (locs ++ Lc) (cells + u) (slots + 6 * u) ∧ (∀ x ∈ Lc, b0 ≤ x.base) ∧ f_W L Ar D z' T'.heap ∧ T.heap.size ≤ T'.heap.size ∧ (∀ q' : Nat, q' < T.heap.size → ¬ f_A b0 q' → T'.heap[q']? = T.heap[q']?) ∧
      T'.heap[q]? = some ce ∧ ce.vm = .none ∧ T.vm.findClass (f_exc n) = some ce.cls ∧ Steps p.tables e below (doInvoke e (T.setTop g) [] mk as.toArray).1 ((T'.setTop g).pushFrame (.throwing q)) := by
  obtain ⟨methY, cY, hmY, hcY, -, hlY, -, -, -, -⟩ := Cond.code_spec hn hcode
  obtain ⟨kY, hkY, -⟩ := className_of_methodNamed hn
  have hinitY : kY.init = .initialized := Cond.initialized_spec (findClass_of_methodNamed hn) hkY hini
  have h : At T g.method c below := by rw [hg]; exact X.here
  have happ : (headSpec ws (f_rm d u)).appliesLoose y e.platform (T.calling g mk as.toArray) = true :=
    Spec.appliesLoose_calling (g := g) h hdg hn hkY hinitY
      (X.room_calling (g := g) (R' := f_rm d u) hsize hmY hcY hfr (by rw [hlY]; show _ + (maxL + 11) + 40 * d ≤ _; omega) hc hs) (atoms_intro hws)
  obtain ⟨mid, hmid⟩ := h.above
  have hfr' : (T.setTop g).frames = (.java g :: mid) ++ below := by rw [State.frames_setTop' g h.top, hmid]; rfl
  obtain ⟨o, s₂, hsteps, -, hend, hq⟩ := Steps.callFree hC p X.admits X.cas X.clock (acts := []) hfr' happ (f_Pc_blind L Ar D b0 as z _ _ g mk hP) trivial
  rw [State.frames_setTop' g h.top, X.tail] at hend
  obtain ⟨ho, hW2, hF, Lc, w1, w2, w3⟩ := hq
  obtain ⟨q, ce, rfl, c1, c2, c3⟩ := ho
  obtain ⟨T', X', hW', hsame', ht⟩ := X.outOfThrown hg hend w1 w2
  have hheap : s₂.heap = T'.heap := by rw [ht]; exact Stand.throwing_heap T' g q
  rw [hheap] at hW2 c1
  have hF1 : T.heap.size ≤ T'.heap.size := by rw [← hheap]; exact hF.1
  have hF2 : ∀ q' : Nat, q' < T.heap.size → ¬ f_A b0 q' → T'.heap[q']? = T.heap[q']? := by
    intro q' h1 h2
    rw [← hheap]
    exact hF.2 q' h1 h2
  exact ⟨q, T', Lc, ce, X', w3, hW2, hF1, hF2, c1, c2, c3, by rw [← ht]; exact hsteps⟩
/-- the method's frame g, with q thrown over it -/
def f_V (p : Program) (l : Launch) (e : Env) (R : Room) (s : State) (m : MethodId) (args : Array Value) (below : List Frame) (meth : Method) (c : Code) (H : Heap) (locs : List Loc) (cells slots : Nat) (Q : State → Prop) (g : JFrame) (q : Addr) : Prop :=
  ∀ T : State, T.heap = H → Stand p l e R s m args below meth c T locs cells slots → ∃ t, Steps p.tables e below ((T.setTop g).pushFrame (.throwing q)) t ∧ Q t
theorem hw_out {pc : Nat} {ls : Array Slot} {rest : List Value} {ce : Cell} {q : Addr} (hout : ∀ x ∈ c.exceptionTable.toList, covers x pc = false) (hlk : meth.locks = false) (hW : f_W L Ar D z' H) (hS : va_S (f_A b0) s.heap H locs) (hq : H[q]? = some ce) (hv : ce.vm = .none) (hcl : s.vm.findClass (f_exc n) = some ce.cls) (hc : cells ≤ u) (hs : slots ≤ 6 * u) :
    f_V p l e R s m args below meth c H locs cells slots (f_E below args s L Ar D b0 u (.inr n) z') (F0 m pc ls rest) q := by
  intro T hT X0
  have X := stand_widen X0 hc hs
  obtain ⟨st, r1, r2, r3, r4⟩ := X.leaveThrown q (g := F0 m pc ls rest) rfl rfl rfl hout hlk
  exact ⟨_, st, _, r1, r2, ⟨q, ce, rfl, by rw [show (T.setFrames (.throwing q :: below)).heap = T.heap from rfl, hT]; exact hq, hv, hcl⟩, by rw [show (T.setFrames (.throwing q :: below)).heap = T.heap from rfl, hT]; exact hW, hS.F hT, locs, r3, r4, hS.2.2⟩
theorem hw_ST {cc : ByteArray} {pc nL index maxL k uc : Nat} {own : String} {As rest : List Value} {ls : Array Slot} {bytes : ByteArray} {ret : Option FieldType} {Ts : List Cond} (S : CallFix p m c cc nL s args Ts own) (hC : f_C l y ws d uc L Ar D b0 As z (.inr n) z') (cw : CallB R s args own index y bytes maxL ret ws (f_rm d uc) uc (6 * uc) k ∧ (Cond.static y).before args s = true)
    (hK : f_K Ar D s) (hZ : f_Z b0 s s.heap) (hsz : b0 ≤ s.heap.size) (hS : va_S (f_A b0) s.heap H locs) (hW : f_W L Ar D z H) (hn : As.length = k) (hsize : ls.size = nL) (hwt : (rest.map fun v => v.category).sum ≤ 8) (hdg : decode cc pc = .ok (.invokestatic index, 3)) (hf : cells + uc ≤ R.cells ∧ slots + 6 * uc ≤ R.slots)
    (kk : ∀ (q : Addr) (ce : Cell) (H1 : Heap) (locs1 : List Loc), f_W L Ar D z' H1 → va_S (f_A b0) s.heap H1 locs1 → H1[q]? = some ce → ce.vm = .none → s.vm.findClass (f_exc n) = some ce.cls → f_V p l e R s m args below meth c H1 locs1 (cells + uc) (slots + 6 * uc) Q (F0 m pc ls rest) q) :
    W p l e R s m args below meth c H locs cells slots Q (F0 m pc ls (As.reverse ++ rest)) := by
  obtain ⟨⟨-, -, hfr, hlo, hws, hcw, hcode, hini, hy, hlen, hl⟩, hstt⟩ := cw
  obtain ⟨hx, hb, hml, ho, -⟩ := S
  intro T hT X
  obtain ⟨mk, hnamed⟩ := Cond.code_named hcode
  obtain ⟨methM, cM, hmethM, -, -, -, -, -, -, hsigM⟩ := Cond.code_spec hnamed hcode
  have hstatic : methM.isStatic = true := Cond.static_spec hnamed hmethM hstt
  obtain ⟨kP, hkP, -⟩ := className_of_methodNamed hnamed
  have hinitP : kP.init = .initialized := Cond.initialized_spec (findClass_of_methodNamed hnamed) hkP hini
  obtain ⟨vm₁, X₁, hstep₁⟩ := X.invokestatic hx ho hl hnamed hmethM hstatic hkP hinitP hy (g := F0 m pc ls (As.reverse ++ rest)) rfl (argsL := As) (rest := rest) (hn.trans (hlen _ hsigM)) rfl (by rw [hb]; exact hdg)
  obtain ⟨q, T', Lc, ce, X', hL, hW', k1, k2, k3, k4, k5, hsteps⟩ := f_callT X₁ hC (g := F0 m pc ls rest) rfl (hsize.trans hml.symm) (by rw [hb]; exact hdg) (by show 2 * 0 + (rest.map fun v => v.category).sum ≤ 8; omega) (X₁.named hnamed) (hws _ hcw _ _ X₁.warmed) (word_at X₁.warmed (Or.inl (by first | rfl | simp [Cond.onTables, Cond.keeps, Cond.steady])) hini) (fun w hw => hws w hw _ _ X₁.warmed) hfr hlo hf.1 hf.2 (f_Pc_at hK hZ hsz hS hW hT X₁.warmed)
  have hT1 : (T.setVm vm₁).heap = H := hT
  rw [hT1] at k1 k2
  obtain ⟨t, a1, b1⟩ := kk q ce T'.heap (locs ++ Lc) hW'
    ⟨Nat.le_trans hS.1 k1, fun q' h1 h2 => by rw [k2 q' (Nat.lt_of_lt_of_le h1 hS.1) h2]; exact hS.2.1 q' h1 h2, fun x hx => by
      rcases List.mem_append.mp hx with h | h
      · exact hS.2.2 x h
      · exact hL x h⟩ k3 k4 (by rw [← X₁.warmed.alike.findClass]; exact k5) T' rfl X'
  exact ⟨t, hstep₁ _ fun acts => by rw [doInvoke_state]; exact hsteps.trans a1, b1⟩
theorem hw_VT {cc : ByteArray} {pc nL index maxL k uc : Nat} {own C : String} {b : Addr} {As rest : List Value} {ls : Array Slot} {bytes : ByteArray} {ret : Option FieldType} {Ts : List Cond} (S : CallFix p m c cc nL s args Ts own) (hC : f_C l y ws d uc L Ar D b0 (.ref b :: As) z (.inr n) z') (cw : CallW R s args own C index y bytes maxL ret ws (f_rm d uc) uc (6 * uc) k)
    (hK : f_K Ar D s) (hZ : f_Z b0 s s.heap) (hsz : b0 ≤ s.heap.size) (hS : va_S (f_A b0) s.heap H locs) (hW : f_W L Ar D z H) (hrecv : ∃ cellB : Cell, H[b]? = some cellB ∧ cellB.vm.isStatics = false ∧ s.vm.findClass C = some cellB.cls) (hn : As.length = k) (hsize : ls.size = nL) (hwt : (rest.map fun v => v.category).sum ≤ 8) (hdg : decode cc pc = .ok (.invokevirtual index, 3)) (hf : cells + uc ≤ R.cells ∧ slots + 6 * uc ≤ R.slots)
    (kk : ∀ (q : Addr) (ce : Cell) (H1 : Heap) (locs1 : List Loc), f_W L Ar D z' H1 → va_S (f_A b0) s.heap H1 locs1 → H1[q]? = some ce → ce.vm = .none → s.vm.findClass (f_exc n) = some ce.cls → f_V p l e R s m args below meth c H1 locs1 (cells + uc) (slots + 6 * uc) Q (F0 m pc ls rest) q) :
    W p l e R s m args below meth c H locs cells slots Q (F0 m pc ls (As.reverse ++ .ref b :: rest)) := by
  obtain ⟨⟨-, -, hfr, hlo, hws, hcw, hcode, hini, hy, hlen, hl⟩, hinst, hsel⟩ := cw
  obtain ⟨hx, hb, hml, ho, -⟩ := S
  obtain ⟨cellB, hcB, hobj, hcls⟩ := hrecv
  intro T hT X
  obtain ⟨mk, methM, hnamed, hmethM, hstM, habM⟩ := Cond.instanceMethod_spec hinst
  obtain ⟨methM', cM, hmethM', -, -, -, -, -, -, hsigM⟩ := Cond.code_spec hnamed hcode
  cases hmethM.symm.trans hmethM'
  obtain ⟨c2, r2, m2, q1, q2, q3, q4, kP, hkP, hkPi⟩ := Cond.selects_spec hsel
  cases hcls.symm.trans q1
  cases (State.methodFound?_of_named hnamed hy).symm.trans q2
  cases hnamed.symm.trans q3
  have hselP : selectMethod e.platform s.vm cellB.cls mk = .method mk := by rw [Launch.admits_selectMethod X.admits]; exact q4
  obtain ⟨vm₁, X₁, hstep₁⟩ := X.invokevirtual hx ho hl hnamed hmethM hstM hkP hkPi hy (a := b) (cell := cellB) (by rw [hT]; exact hcB)
    (fun z h => by rw [h] at hobj; cases hobj) hselP hmethM habM hkP hkPi (g := F0 m pc ls (As.reverse ++ .ref b :: rest)) rfl (argsL := As) (rest := rest) (hn.trans (hlen _ hsigM)) rfl (by rw [hb]; exact hdg)
  obtain ⟨q, T', Lc, ce, X', hL, hW', k1, k2, k3, k4, k5, hsteps⟩ := f_callT X₁ hC (g := F0 m pc ls rest) rfl (hsize.trans hml.symm) (by rw [hb]; exact hdg) (by show 2 * 0 + (rest.map fun v => v.category).sum ≤ 8; omega) (X₁.named hnamed) (hws _ hcw _ _ X₁.warmed) (word_at X₁.warmed (Or.inl (by first | rfl | simp [Cond.onTables, Cond.keeps, Cond.steady])) hini) (fun w hw => hws w hw _ _ X₁.warmed) hfr hlo hf.1 hf.2 (f_Pc_at hK hZ hsz hS hW hT X₁.warmed)
  have hT1 : (T.setVm vm₁).heap = H := hT
  rw [hT1] at k1 k2
  obtain ⟨t, a1, b1⟩ := kk q ce T'.heap (locs ++ Lc) hW'
    ⟨Nat.le_trans hS.1 k1, fun q' h1 h2 => by rw [k2 q' (Nat.lt_of_lt_of_le h1 hS.1) h2]; exact hS.2.1 q' h1 h2, fun x hx => by
      rcases List.mem_append.mp hx with h | h
      · exact hS.2.2 x h
      · exact hL x h⟩ k3 k4 (by rw [← X₁.warmed.alike.findClass]; exact k5) T' rfl X'
  exact ⟨t, hstep₁ _ fun acts => by rw [doInvoke_state]; exact hsteps.trans a1, b1⟩
end FX
end
section
/-! Calls by site: what a place of the code says of its callee, as words of wt; and the rows of a call that returns or throws. -/
def f_ss (own : String) (index : Nat) (y : MethodName) (bytes : ByteArray) (maxL : Nat) (ret : Option FieldType) (n : Nat) : Prop := Cond.code y bytes maxL ret ∈ wt ∧ Cond.initialized y.cls ∈ wt ∧ Cond.methodLink own index y ∈ wt ∧ Cond.static y ∈ wt ∧ (y.cls ≠ "java/lang/invoke/MethodHandle" ∧ y.cls ≠ "java/lang/invoke/VarHandle") ∧ (parseMethodDescriptor y.desc).map (fun d => d.parameters.length) = some n
def f_sv (own : String) (index : Nat) (y : MethodName) (bytes : ByteArray) (maxL : Nat) (ret : Option FieldType) (n : Nat) : Prop := Cond.code y bytes maxL ret ∈ wt ∧ Cond.initialized y.cls ∈ wt ∧ Cond.methodLink own index y ∈ wt ∧ (Cond.instanceMethod y ∈ wt ∧ Cond.selects y.cls y y ∈ wt) ∧ (y.cls ≠ "java/lang/invoke/MethodHandle" ∧ y.cls ≠ "java/lang/invoke/VarHandle") ∧ (parseMethodDescriptor y.desc).map (fun d => d.parameters.length) = some n
section FS
variable {p : Program} {l : Launch} {e : Env} {R : Room} {s : State} {m : MethodId} {args : Array Value} {below : List Frame} {meth : Method} {c : Code} {H : Heap} {locs : List Loc} {cells slots : Nat} {Q : State → Prop}
variable {cc : ByteArray} {pc nL : Nat} {ls : Array Slot} {As rest : List Value} {L : Nat → Nat → Nat} {Ar : Nat → ClassId} {D : va_G} {b0 uc d n index maxL : Nat} {z z' : fST} {own : String} {y : MethodName} {bytes : ByteArray} {ret : Option FieldType} {v : Option Value}
theorem f_cb (hts : ∀ w ∈ wt, w.before args s = true) (h1 : Cond.code y bytes maxL ret ∈ wt) (h2 : Cond.initialized y.cls ∈ wt) (h3 : Cond.methodLink own index y ∈ wt) (h5 : y.cls ≠ "java/lang/invoke/MethodHandle" ∧ y.cls ≠ "java/lang/invoke/VarHandle") (h6 : (parseMethodDescriptor y.desc).map (fun d => d.parameters.length) = some n) (hf : d + 1 ≤ R.frames) (hlo : 8 + (maxL + 11) + 40 * d ≤ R.locals) : CallB R s args own index y bytes maxL ret wt (f_rm d uc) uc (6 * uc) n := by
  refine ⟨rfl, rfl, hf, hlo, wt_at hts, h1, hts _ h1, hts _ h2, h5, fun sig h => ?_, hts _ h3⟩
  rw [h] at h6
  exact (Option.some.inj h6).symm
theorem hw_SR (hx : p.tables.exec = Jvm.exec) (hb : c.code = cc) (hml : c.maxLocals = nL) (hown : s.vm.findClass own = some m.cls) (hts : ∀ w ∈ wt, w.before args s = true) (hC : f_C l y wt d uc L Ar D b0 As z (.inl v) z') (st : f_ss own index y bytes maxL ret n) (hK : f_K Ar D s) (hZ : f_Z b0 s s.heap) (hsz : b0 ≤ s.heap.size) (hS : va_S (f_A b0) s.heap H locs) (hW : f_W L Ar D z H) (hn : As.length = n) (hsize : ls.size = nL) (hwt : (rest.map fun v => v.category).sum ≤ 8) (hd : decode cc pc = .ok (.invokestatic index, 3)) (hf : d + 1 ≤ R.frames) (hlo : 8 + (maxL + 11) + 40 * d ≤ R.locals) (hc : cells + uc ≤ R.cells) (hs : slots + 6 * uc ≤ R.slots)
    (kk : ∀ (H1 : Heap) (locs1 : List Loc), f_W L Ar D z' H1 → va_S (f_A b0) s.heap H1 locs1 → W p l e R s m args below meth c H1 locs1 (cells + uc) (slots + 6 * uc) Q (F0 m (pc + 3) ls (v.toList ++ rest))) : W p l e R s m args below meth c H locs cells slots Q (F0 m pc ls (As.reverse ++ rest)) := by
  obtain ⟨h1, h2, h3, h4, h5, h6⟩ := st
  exact hw_go (va_runS (As := As) (rest := rest) ⟨hx, hb, hml, hown, hts⟩ (f_met hC) ⟨f_cb hts h1 h2 h3 h5 h6 hf hlo, hts _ h4⟩ (hw_preS hK hZ hsz hS hW) rfl hn hsize rfl (lv_room hwt) hd ⟨hc, hs⟩) hS kk
theorem hw_VR {k i ci N nk : Nat} {T : u_T} (hx : p.tables.exec = Jvm.exec) (hb : c.code = cc) (hml : c.maxLocals = nL) (hown : s.vm.findClass own = some m.cls) (hts : ∀ w ∈ wt, w.before args s = true) (hC : f_C l y wt d uc L Ar D b0 (.ref (L k i) :: As) z (.inl v) z') (st : f_sv own index y bytes maxL ret n) (hk : k < 51) (hcn : f_cnt k = nk) (hi : i < nk) (ho : f_ob k = some ci) (hv : vwCl[ci]? = some (y.cls, T, N)) (hK : f_K Ar D s) (hZ : f_Z b0 s s.heap) (hsz : b0 ≤ s.heap.size) (hS : va_S (f_A b0) s.heap H locs) (hW : f_W L Ar D z H) (hn : As.length = n) (hsize : ls.size = nL) (hwt : (rest.map fun v => v.category).sum ≤ 8) (hd : decode cc pc = .ok (.invokevirtual index, 3)) (hf : d + 1 ≤ R.frames) (hlo : 8 + (maxL + 11) + 40 * d ≤ R.locals) (hc : cells + uc ≤ R.cells) (hs : slots + 6 * uc ≤ R.slots)
    (kk : ∀ (H1 : Heap) (locs1 : List Loc), f_W L Ar D z' H1 → va_S (f_A b0) s.heap H1 locs1 → W p l e R s m args below meth c H1 locs1 (cells + uc) (slots + 6 * uc) Q (F0 m (pc + 3) ls (v.toList ++ rest))) : W p l e R s m args below meth c H locs cells slots Q (F0 m pc ls (As.reverse ++ .ref (L k i) :: rest)) := by
  obtain ⟨h1, h2, h3, ⟨h4, h4'⟩, h5, h6⟩ := st
  subst hcn
  exact hw_go (va_runV (As := As) (rest := rest) (C := y.cls) ⟨hx, hb, hml, hown, hts⟩ (f_met hC) ⟨f_cb hts h1 h2 h3 h5 h6 hf hlo, hts _ h4, hts _ h4'⟩ (hw_preV hK hZ hsz hS hW hk hi ho hv) rfl hn hsize rfl (lv_room hwt) hd ⟨hc, hs⟩) hS kk
theorem hw_SX {r : Nat} (hx : p.tables.exec = Jvm.exec) (hb : c.code = cc) (hml : c.maxLocals = nL) (hown : s.vm.findClass own = some m.cls) (hts : ∀ w ∈ wt, w.before args s = true) (hC : f_C l y wt d uc L Ar D b0 As z (.inr r) z') (st : f_ss own index y bytes maxL ret n) (hK : f_K Ar D s) (hZ : f_Z b0 s s.heap) (hsz : b0 ≤ s.heap.size) (hS : va_S (f_A b0) s.heap H locs) (hW : f_W L Ar D z H) (hn : As.length = n) (hsize : ls.size = nL) (hwt : (rest.map fun v => v.category).sum ≤ 8) (hd : decode cc pc = .ok (.invokestatic index, 3)) (hf : d + 1 ≤ R.frames) (hlo : 8 + (maxL + 11) + 40 * d ≤ R.locals) (hc : cells + uc ≤ R.cells) (hs : slots + 6 * uc ≤ R.slots)
    (kk : ∀ (q : Addr) (ce : Cell) (H1 : Heap) (locs1 : List Loc), f_W L Ar D z' H1 → va_S (f_A b0) s.heap H1 locs1 → H1[q]? = some ce → ce.vm = .none → s.vm.findClass (f_exc r) = some ce.cls → f_V p l e R s m args below meth c H1 locs1 (cells + uc) (slots + 6 * uc) Q (F0 m pc ls rest) q) : W p l e R s m args below meth c H locs cells slots Q (F0 m pc ls (As.reverse ++ rest)) := by
  obtain ⟨h1, h2, h3, h4, h5, h6⟩ := st
  exact hw_ST ⟨hx, hb, hml, hown, hts⟩ hC ⟨f_cb hts h1 h2 h3 h5 h6 hf hlo, hts _ h4⟩ hK hZ hsz hS hW hn hsize hwt hd ⟨hc, hs⟩ kk
theorem hw_VX {r k i ci N nk : Nat} {T : u_T} (hx : p.tables.exec = Jvm.exec) (hb : c.code = cc) (hml : c.maxLocals = nL) (hown : s.vm.findClass own = some m.cls) (hts : ∀ w ∈ wt, w.before args s = true) (hC : f_C l y wt d uc L Ar D b0 (.ref (L k i) :: As) z (.inr r) z') (st : f_sv own index y bytes maxL ret n) (hk : k < 51) (hcn : f_cnt k = nk) (hi : i < nk) (ho : f_ob k = some ci) (hv : vwCl[ci]? = some (y.cls, T, N)) (hK : f_K Ar D s) (hZ : f_Z b0 s s.heap) (hsz : b0 ≤ s.heap.size) (hS : va_S (f_A b0) s.heap H locs) (hW : f_W L Ar D z H) (hn : As.length = n) (hsize : ls.size = nL) (hwt : (rest.map fun v => v.category).sum ≤ 8) (hd : decode cc pc = .ok (.invokevirtual index, 3)) (hf : d + 1 ≤ R.frames) (hlo : 8 + (maxL + 11) + 40 * d ≤ R.locals) (hc : cells + uc ≤ R.cells) (hs : slots + 6 * uc ≤ R.slots)
    (kk : ∀ (q : Addr) (ce : Cell) (H1 : Heap) (locs1 : List Loc), f_W L Ar D z' H1 → va_S (f_A b0) s.heap H1 locs1 → H1[q]? = some ce → ce.vm = .none → s.vm.findClass (f_exc r) = some ce.cls → f_V p l e R s m args below meth c H1 locs1 (cells + uc) (slots + 6 * uc) Q (F0 m pc ls rest) q) : W p l e R s m args below meth c H locs cells slots Q (F0 m pc ls (As.reverse ++ .ref (L k i) :: rest)) := by
  obtain ⟨h1, h2, h3, ⟨h4, h4'⟩, h5, h6⟩ := st
  subst hcn
  exact hw_VT (C := y.cls) ⟨hx, hb, hml, hown, hts⟩ hC ⟨f_cb hts h1 h2 h3 h5 h6 hf hlo, hts _ h4, hts _ h4'⟩ hK hZ hsz hS hW (f_recv hK hW hk hi ho hv) hn hsize hwt hd ⟨hc, hs⟩ kk
theorem hw_abs {x : Int32} (hx : p.tables.exec = Jvm.exec) (hb : c.code = cc) (hml : c.maxLocals = nL) (hsize : ls.size = nL) (hown : s.vm.findClass own = some m.cls) (hts : ∀ w ∈ wt, w.before args s = true) (st : f_ss own index Lib.Math.abs.name Lib.Math.abs.code 1 (some .int) 1) (hf : 1 ≤ R.frames) (hlo : (rest.map fun v => v.category).sum + 13 ≤ R.locals) (hc : cells ≤ R.cells) (hs : slots ≤ R.slots) (hd : decode cc pc = .ok (.invokestatic index, 3))
    (kk : W p l e R s m args below meth c H locs cells slots Q (F0 m (pc + 3) ls (.int (f_ab x) :: rest))) : W p l e R s m args below meth c H locs cells slots Q (F0 m pc ls (.int x :: rest)) := by
  obtain ⟨h1, h2, h3, h4, h5, h6⟩ := st
  exact va_mabs hx hb (hml.trans hsize.symm) hown (hts _ h3) (hts _ h4) (hts _ h2) (hts _ h1) hf hlo hc hs hd kk
/-- a nest mate's private static method -/
def f_sn (own : String) (index : Nat) (y : MethodName) (host : String) (bytes : ByteArray) (maxL : Nat) (ret : Option FieldType) (n : Nat) : Prop := Cond.code y bytes maxL ret ∈ wt ∧ Cond.initialized y.cls ∈ wt ∧ Cond.static y ∈ wt ∧ (y.cls ≠ "java/lang/invoke/MethodHandle" ∧ y.cls ≠ "java/lang/invoke/VarHandle") ∧ (parseMethodDescriptor y.desc).map (fun d => d.parameters.length) = some n
theorem hw_SN {host : String} (hx : p.tables.exec = Jvm.exec) (hb : c.code = cc) (hml : c.maxLocals = nL) (hown : s.vm.findClass own = some m.cls) (hts : ∀ w ∈ wt, w.before args s = true) (hC : f_C l y wt d uc L Ar D b0 As z (.inl v) z') (st : f_sn own index y host bytes maxL ret n) (hnest : va_Nw (.methodLinkNest own index y host) s) (hK : f_K Ar D s) (hZ : f_Z b0 s s.heap) (hsz : b0 ≤ s.heap.size) (hS : va_S (f_A b0) s.heap H locs) (hW : f_W L Ar D z H) (hn : As.length = n) (hsize : ls.size = nL) (hwt : (rest.map fun v => v.category).sum ≤ 8) (hd : decode cc pc = .ok (.invokestatic index, 3)) (hf : d + 1 ≤ R.frames) (hlo : 8 + (maxL + 11) + 40 * d ≤ R.locals) (hc : cells + uc ≤ R.cells) (hs : slots + 6 * uc ≤ R.slots)
    (kk : ∀ (H1 : Heap) (locs1 : List Loc), f_W L Ar D z' H1 → va_S (f_A b0) s.heap H1 locs1 → W p l e R s m args below meth c H1 locs1 (cells + uc) (slots + 6 * uc) Q (F0 m (pc + 3) ls (v.toList ++ rest))) : W p l e R s m args below meth c H locs cells slots Q (F0 m pc ls (As.reverse ++ rest)) := by
  obtain ⟨h1, h2, h4, h5, h6⟩ := st
  refine hw_go (va_runSN (As := As) (rest := rest) ⟨hx, hb, hml, hown, hts⟩ (f_met hC) ⟨⟨⟨rfl, rfl, hf, hlo, wt_at hts, h1⟩, hts _ h1, hts _ h2, h5, fun sig h => ?_, va_Nw.use rfl hnest⟩, hts _ h4, trivial⟩ (hw_preS hK hZ hsz hS hW) rfl hn hsize rfl (lv_room hwt) hd ⟨hc, hs⟩) hS kk
  rw [h] at h6
  exact (Option.some.inj h6).symm
end FS
end
section
/-! fields, calls and throws, place by place: written by program -/
theorem fl_b_40 : f_fl wt "BottleReturn" 40 0 4 := ⟨0, "BottleReturn", T_b, 12, rfl, rfl, rfl, by decide, in_b, rfl, (wt_in (List.mem_of_getElem? (i := 227) (by decide +kernel)) rfl), by decide⟩
theorem fl_b_116 : f_fl wt "BottleReturn" 116 23 2 := ⟨7, "BottleReturn$Journal", T_jo, 3, rfl, rfl, rfl, by decide, in_jo, rfl, (wt_in (List.mem_of_getElem? (i := 202) (by decide +kernel)) rfl), by decide⟩
theorem fl_ca_35 : f_fl wt "BottleReturn$Catalogue" 35 1 7 := ⟨1, "BottleReturn$Catalogue", T_ca, 8, rfl, rfl, rfl, by decide, in_ca, rfl, (wt_in (List.mem_of_getElem? (i := 43) (by decide +kernel)) rfl), by decide⟩
theorem fl_ca_32 : f_fl wt "BottleReturn$Catalogue" 32 1 6 := ⟨1, "BottleReturn$Catalogue", T_ca, 8, rfl, rfl, rfl, by decide, in_ca, rfl, (wt_in (List.mem_of_getElem? (i := 42) (by decide +kernel)) rfl), by decide⟩
theorem fl_b_12 : f_fl wt "BottleReturn" 12 0 0 := ⟨0, "BottleReturn", T_b, 12, rfl, rfl, rfl, by decide, in_b, rfl, (wt_in (List.mem_of_getElem? (i := 223) (by decide +kernel)) rfl), by decide⟩
theorem fl_b_19 : f_fl wt "BottleReturn" 19 0 1 := ⟨0, "BottleReturn", T_b, 12, rfl, rfl, rfl, by decide, in_b, rfl, (wt_in (List.mem_of_getElem? (i := 224) (by decide +kernel)) rfl), by decide⟩
theorem fl_b_127 : f_fl wt "BottleReturn" 127 11 1 := ⟨2, "BottleReturn$Belt", T_be, 3, rfl, rfl, rfl, by decide, in_be, rfl, (wt_in (List.mem_of_getElem? (i := 137) (by decide +kernel)) rfl), by decide⟩
theorem fl_ca_9 : f_fl wt "BottleReturn$Catalogue" 9 1 0 := ⟨1, "BottleReturn$Catalogue", T_ca, 8, rfl, rfl, rfl, by decide, in_ca, rfl, (wt_in (List.mem_of_getElem? (i := 34) (by decide +kernel)) rfl), by decide⟩
theorem fl_ca_15 : f_fl wt "BottleReturn$Catalogue" 15 1 1 := ⟨1, "BottleReturn$Catalogue", T_ca, 8, rfl, rfl, rfl, by decide, in_ca, rfl, (wt_in (List.mem_of_getElem? (i := 35) (by decide +kernel)) rfl), by decide⟩
theorem fl_ca_18 : f_fl wt "BottleReturn$Catalogue" 18 1 2 := ⟨1, "BottleReturn$Catalogue", T_ca, 8, rfl, rfl, rfl, by decide, in_ca, rfl, (wt_in (List.mem_of_getElem? (i := 37) (by decide +kernel)) rfl), by decide⟩
theorem fl_ca_21 : f_fl wt "BottleReturn$Catalogue" 21 1 3 := ⟨1, "BottleReturn$Catalogue", T_ca, 8, rfl, rfl, rfl, by decide, in_ca, rfl, (wt_in (List.mem_of_getElem? (i := 39) (by decide +kernel)) rfl), by decide⟩
theorem fl_ca_24 : f_fl wt "BottleReturn$Catalogue" 24 1 4 := ⟨1, "BottleReturn$Catalogue", T_ca, 8, rfl, rfl, rfl, by decide, in_ca, rfl, (wt_in (List.mem_of_getElem? (i := 40) (by decide +kernel)) rfl), by decide⟩
theorem fl_ca_27 : f_fl wt "BottleReturn$Catalogue" 27 1 5 := ⟨1, "BottleReturn$Catalogue", T_ca, 8, rfl, rfl, rfl, by decide, in_ca, rfl, (wt_in (List.mem_of_getElem? (i := 41) (by decide +kernel)) rfl), by decide⟩
theorem fl_co_30 : f_fl wt "BottleReturn$Container" 30 13 4 := ⟨3, "BottleReturn$Container", T_co, 9, rfl, rfl, rfl, by decide, in_co, rfl, (wt_in (List.mem_of_getElem? (i := 103) (by decide +kernel)) rfl), by decide⟩
theorem fl_co_27 : f_fl wt "BottleReturn$Container" 27 13 3 := ⟨3, "BottleReturn$Container", T_co, 9, rfl, rfl, rfl, by decide, in_co, rfl, (wt_in (List.mem_of_getElem? (i := 101) (by decide +kernel)) rfl), by decide⟩
theorem fl_co_14 : f_fl wt "BottleReturn$Container" 14 13 0 := ⟨3, "BottleReturn$Container", T_co, 9, rfl, rfl, rfl, by decide, in_co, rfl, (wt_in (List.mem_of_getElem? (i := 93) (by decide +kernel)) rfl), by decide⟩
theorem fp_co_40 : f_fp wt "BottleReturn$Container" 40 14 1 .int := ⟨4, "BottleReturn$Row", T_ro, 2, ty_ro, rfl, rfl, rfl, by decide, in_ro, rfl, (wt_in (List.mem_of_getElem? (i := 85) (by decide +kernel)) rfl), by decide, tk_ro, nm_ro, rfl, tk_ro 1 (by decide), rfl⟩
theorem fl_co_20 : f_fl wt "BottleReturn$Container" 20 13 1 := ⟨3, "BottleReturn$Container", T_co, 9, rfl, rfl, rfl, by decide, in_co, rfl, (wt_in (List.mem_of_getElem? (i := 96) (by decide +kernel)) rfl), by decide⟩
theorem fp_co_43 : f_fp wt "BottleReturn$Container" 43 13 5 .int := ⟨3, "BottleReturn$Container", T_co, 9, ty_co, rfl, rfl, rfl, by decide, in_co, rfl, (wt_in (List.mem_of_getElem? (i := 106) (by decide +kernel)) rfl), by decide, tk_co, nm_co, rfl, tk_co 5 (by decide), rfl⟩
theorem fp_co_46 : f_fp wt "BottleReturn$Container" 46 13 6 .int := ⟨3, "BottleReturn$Container", T_co, 9, ty_co, rfl, rfl, rfl, by decide, in_co, rfl, (wt_in (List.mem_of_getElem? (i := 108) (by decide +kernel)) rfl), by decide, tk_co, nm_co, rfl, tk_co 6 (by decide), rfl⟩
theorem fp_co_49 : f_fp wt "BottleReturn$Container" 49 13 7 .int := ⟨3, "BottleReturn$Container", T_co, 9, ty_co, rfl, rfl, rfl, by decide, in_co, rfl, (wt_in (List.mem_of_getElem? (i := 111) (by decide +kernel)) rfl), by decide, tk_co, nm_co, rfl, tk_co 7 (by decide), rfl⟩
theorem fp_co_23 : f_fp wt "BottleReturn$Container" 23 13 2 .int := ⟨3, "BottleReturn$Container", T_co, 9, ty_co, rfl, rfl, rfl, by decide, in_co, rfl, (wt_in (List.mem_of_getElem? (i := 98) (by decide +kernel)) rfl), by decide, tk_co, nm_co, rfl, tk_co 2 (by decide), rfl⟩
theorem fp_co_27 : f_fp wt "BottleReturn$Container" 27 13 3 .int := ⟨3, "BottleReturn$Container", T_co, 9, ty_co, rfl, rfl, rfl, by decide, in_co, rfl, (wt_in (List.mem_of_getElem? (i := 101) (by decide +kernel)) rfl), by decide, tk_co, nm_co, rfl, tk_co 3 (by decide), rfl⟩
theorem fp_co_30 : f_fp wt "BottleReturn$Container" 30 13 4 .int := ⟨3, "BottleReturn$Container", T_co, 9, ty_co, rfl, rfl, rfl, by decide, in_co, rfl, (wt_in (List.mem_of_getElem? (i := 103) (by decide +kernel)) rfl), by decide, tk_co, nm_co, rfl, tk_co 4 (by decide), rfl⟩
theorem fp_co_33 : f_fp wt "BottleReturn$Container" 33 13 8 .boolean := ⟨3, "BottleReturn$Container", T_co, 9, ty_co, rfl, rfl, rfl, by decide, in_co, rfl, (wt_in (List.mem_of_getElem? (i := 113) (by decide +kernel)) rfl), by decide, tk_co, nm_co, rfl, tk_co 8 (by decide), rfl⟩
theorem fl_be_18 : f_fl wt "BottleReturn$Belt" 18 11 1 := ⟨2, "BottleReturn$Belt", T_be, 3, rfl, rfl, rfl, by decide, in_be, rfl, (wt_in (List.mem_of_getElem? (i := 136) (by decide +kernel)) rfl), by decide⟩
theorem fl_be_11 : f_fl wt "BottleReturn$Belt" 11 11 0 := ⟨2, "BottleReturn$Belt", T_be, 3, rfl, rfl, rfl, by decide, in_be, rfl, (wt_in (List.mem_of_getElem? (i := 134) (by decide +kernel)) rfl), by decide⟩
theorem fl_be_26 : f_fl wt "BottleReturn$Belt" 26 11 2 := ⟨2, "BottleReturn$Belt", T_be, 3, rfl, rfl, rfl, by decide, in_be, rfl, (wt_in (List.mem_of_getElem? (i := 138) (by decide +kernel)) rfl), by decide⟩
theorem fp_be_26 : f_fp wt "BottleReturn$Belt" 26 11 2 .int := ⟨2, "BottleReturn$Belt", T_be, 3, ty_be, rfl, rfl, rfl, by decide, in_be, rfl, (wt_in (List.mem_of_getElem? (i := 138) (by decide +kernel)) rfl), by decide, tk_be, nm_be, rfl, tk_be 2 (by decide), rfl⟩
theorem fp_be_18 : f_fp wt "BottleReturn$Belt" 18 11 1 .int := ⟨2, "BottleReturn$Belt", T_be, 3, ty_be, rfl, rfl, rfl, by decide, in_be, rfl, (wt_in (List.mem_of_getElem? (i := 136) (by decide +kernel)) rfl), by decide, tk_be, nm_be, rfl, tk_be 1 (by decide), rfl⟩
theorem fl_ro_13 : f_fl wt "BottleReturn$Row" 13 14 1 := ⟨4, "BottleReturn$Row", T_ro, 2, rfl, rfl, rfl, by decide, in_ro, rfl, (wt_in (List.mem_of_getElem? (i := 84) (by decide +kernel)) rfl), by decide⟩
theorem fl_ro_7 : f_fl wt "BottleReturn$Row" 7 14 0 := ⟨4, "BottleReturn$Row", T_ro, 2, rfl, rfl, rfl, by decide, in_ro, rfl, (wt_in (List.mem_of_getElem? (i := 81) (by decide +kernel)) rfl), by decide⟩
theorem fp_ro_13 : f_fp wt "BottleReturn$Row" 13 14 1 .int := ⟨4, "BottleReturn$Row", T_ro, 2, ty_ro, rfl, rfl, rfl, by decide, in_ro, rfl, (wt_in (List.mem_of_getElem? (i := 84) (by decide +kernel)) rfl), by decide, tk_ro, nm_ro, rfl, tk_ro 1 (by decide), rfl⟩
theorem fl_b_97 : f_fl wt "BottleReturn" 97 13 0 := ⟨3, "BottleReturn$Container", T_co, 9, rfl, rfl, rfl, by decide, in_co, rfl, (wt_in (List.mem_of_getElem? (i := 94) (by decide +kernel)) rfl), by decide⟩
theorem fl_b_109 : f_fl wt "BottleReturn" 109 13 1 := ⟨3, "BottleReturn$Container", T_co, 9, rfl, rfl, rfl, by decide, in_co, rfl, (wt_in (List.mem_of_getElem? (i := 97) (by decide +kernel)) rfl), by decide⟩
theorem fp_b_112 : f_fp wt "BottleReturn" 112 13 5 .int := ⟨3, "BottleReturn$Container", T_co, 9, ty_co, rfl, rfl, rfl, by decide, in_co, rfl, (wt_in (List.mem_of_getElem? (i := 107) (by decide +kernel)) rfl), by decide, tk_co, nm_co, rfl, tk_co 5 (by decide), rfl⟩
theorem fl_be_40 : f_fl wt "BottleReturn$Belt" 40 13 4 := ⟨3, "BottleReturn$Container", T_co, 9, rfl, rfl, rfl, by decide, in_co, rfl, (wt_in (List.mem_of_getElem? (i := 104) (by decide +kernel)) rfl), by decide⟩
theorem fl_be_43 : f_fl wt "BottleReturn$Belt" 43 13 6 := ⟨3, "BottleReturn$Container", T_co, 9, rfl, rfl, rfl, by decide, in_co, rfl, (wt_in (List.mem_of_getElem? (i := 109) (by decide +kernel)) rfl), by decide⟩
theorem fp_be_40 : f_fp wt "BottleReturn$Belt" 40 13 4 .int := ⟨3, "BottleReturn$Container", T_co, 9, ty_co, rfl, rfl, rfl, by decide, in_co, rfl, (wt_in (List.mem_of_getElem? (i := 104) (by decide +kernel)) rfl), by decide, tk_co, nm_co, rfl, tk_co 4 (by decide), rfl⟩
theorem fl_ca_38 : f_fl wt "BottleReturn$Catalogue" 38 13 0 := ⟨3, "BottleReturn$Container", T_co, 9, rfl, rfl, rfl, by decide, in_co, rfl, (wt_in (List.mem_of_getElem? (i := 95) (by decide +kernel)) rfl), by decide⟩
theorem fl_ca_43 : f_fl wt "BottleReturn$Catalogue" 43 14 1 := ⟨4, "BottleReturn$Row", T_ro, 2, rfl, rfl, rfl, by decide, in_ro, rfl, (wt_in (List.mem_of_getElem? (i := 86) (by decide +kernel)) rfl), by decide⟩
theorem fl_ca_49 : f_fl wt "BottleReturn$Catalogue" 49 14 0 := ⟨4, "BottleReturn$Row", T_ro, 2, rfl, rfl, rfl, by decide, in_ro, rfl, (wt_in (List.mem_of_getElem? (i := 83) (by decide +kernel)) rfl), by decide⟩
theorem fl_b_231 : f_fl wt "BottleReturn" 231 14 1 := ⟨4, "BottleReturn$Row", T_ro, 2, rfl, rfl, rfl, by decide, in_ro, rfl, (wt_in (List.mem_of_getElem? (i := 87) (by decide +kernel)) rfl), by decide⟩
theorem fl_b_112 : f_fl wt "BottleReturn" 112 13 5 := ⟨3, "BottleReturn$Container", T_co, 9, rfl, rfl, rfl, by decide, in_co, rfl, (wt_in (List.mem_of_getElem? (i := 107) (by decide +kernel)) rfl), by decide⟩
theorem fl_b_232 : f_fl wt "BottleReturn" 232 11 0 := ⟨2, "BottleReturn$Belt", T_be, 3, rfl, rfl, rfl, by decide, in_be, rfl, (wt_in (List.mem_of_getElem? (i := 135) (by decide +kernel)) rfl), by decide⟩
theorem fl_b_225 : f_fl wt "BottleReturn" 225 13 7 := ⟨3, "BottleReturn$Container", T_co, 9, rfl, rfl, rfl, by decide, in_co, rfl, (wt_in (List.mem_of_getElem? (i := 112) (by decide +kernel)) rfl), by decide⟩
theorem fl_b_295 : f_fl wt "BottleReturn" 295 1 2 := ⟨1, "BottleReturn$Catalogue", T_ca, 8, rfl, rfl, rfl, by decide, in_ca, rfl, (wt_in (List.mem_of_getElem? (i := 38) (by decide +kernel)) rfl), by decide⟩
theorem fl_vo_22 : f_fl wt "BottleReturn$Vouchers" 22 19 3 := ⟨6, "BottleReturn$Vouchers", T_vo, 6, rfl, rfl, rfl, by decide, in_vo, rfl, (wt_in (List.mem_of_getElem? (i := 172) (by decide +kernel)) rfl), by decide⟩
theorem fl_b_133 : f_fl wt "BottleReturn" 133 0 11 := ⟨0, "BottleReturn", T_b, 12, rfl, rfl, rfl, by decide, in_b, rfl, (wt_in (List.mem_of_getElem? (i := 234) (by decide +kernel)) rfl), by decide⟩
theorem fl_la_23 : f_fl wt "BottleReturn$Latest" 23 14 0 := ⟨4, "BottleReturn$Row", T_ro, 2, rfl, rfl, rfl, by decide, in_ro, rfl, (wt_in (List.mem_of_getElem? (i := 82) (by decide +kernel)) rfl), by decide⟩
theorem fl_la_9 : f_fl wt "BottleReturn$Latest" 9 24 0 := ⟨8, "BottleReturn$Latest", T_la, 2, rfl, rfl, rfl, by decide, in_la, rfl, (wt_in (List.mem_of_getElem? (i := 216) (by decide +kernel)) rfl), by decide⟩
theorem fl_la_15 : f_fl wt "BottleReturn$Latest" 15 24 1 := ⟨8, "BottleReturn$Latest", T_la, 2, rfl, rfl, rfl, by decide, in_la, rfl, (wt_in (List.mem_of_getElem? (i := 217) (by decide +kernel)) rfl), by decide⟩
theorem fl_b_26 : f_fl wt "BottleReturn" 26 0 2 := ⟨0, "BottleReturn", T_b, 12, rfl, rfl, rfl, by decide, in_b, rfl, (wt_in (List.mem_of_getElem? (i := 225) (by decide +kernel)) rfl), by decide⟩
theorem fl_b_164 : f_fl wt "BottleReturn" 164 16 0 := ⟨5, "BottleReturn$Bins", T_bi, 2, rfl, rfl, rfl, by decide, in_bi, rfl, (wt_in (List.mem_of_getElem? (i := 153) (by decide +kernel)) rfl), by decide⟩
theorem fl_b_167 : f_fl wt "BottleReturn" 167 16 1 := ⟨5, "BottleReturn$Bins", T_bi, 2, rfl, rfl, rfl, by decide, in_bi, rfl, (wt_in (List.mem_of_getElem? (i := 155) (by decide +kernel)) rfl), by decide⟩
theorem fl_b_33 : f_fl wt "BottleReturn" 33 0 3 := ⟨0, "BottleReturn", T_b, 12, rfl, rfl, rfl, by decide, in_b, rfl, (wt_in (List.mem_of_getElem? (i := 226) (by decide +kernel)) rfl), by decide⟩
theorem fl_b_47 : f_fl wt "BottleReturn" 47 0 5 := ⟨0, "BottleReturn", T_b, 12, rfl, rfl, rfl, by decide, in_b, rfl, (wt_in (List.mem_of_getElem? (i := 228) (by decide +kernel)) rfl), by decide⟩
theorem fl_jo_13 : f_fl wt "BottleReturn$Journal" 13 23 1 := ⟨7, "BottleReturn$Journal", T_jo, 3, rfl, rfl, rfl, by decide, in_jo, rfl, (wt_in (List.mem_of_getElem? (i := 199) (by decide +kernel)) rfl), by decide⟩
theorem fp_jo_13 : f_fp wt "BottleReturn$Journal" 13 23 1 .int := ⟨7, "BottleReturn$Journal", T_jo, 3, ty_jo, rfl, rfl, rfl, by decide, in_jo, rfl, (wt_in (List.mem_of_getElem? (i := 199) (by decide +kernel)) rfl), by decide, tk_jo, nm_jo, rfl, tk_jo 1 (by decide), rfl⟩
theorem fp_jo_7 : f_fp wt "BottleReturn$Journal" 7 23 2 .boolean := ⟨7, "BottleReturn$Journal", T_jo, 3, ty_jo, rfl, rfl, rfl, by decide, in_jo, rfl, (wt_in (List.mem_of_getElem? (i := 201) (by decide +kernel)) rfl), by decide, tk_jo, nm_jo, rfl, tk_jo 2 (by decide), rfl⟩
theorem fl_jo_17 : f_fl wt "BottleReturn$Journal" 17 23 0 := ⟨7, "BottleReturn$Journal", T_jo, 3, rfl, rfl, rfl, by decide, in_jo, rfl, (wt_in (List.mem_of_getElem? (i := 197) (by decide +kernel)) rfl), by decide⟩
theorem fp_jo_17 : f_fp wt "BottleReturn$Journal" 17 23 0 .int := ⟨7, "BottleReturn$Journal", T_jo, 3, ty_jo, rfl, rfl, rfl, by decide, in_jo, rfl, (wt_in (List.mem_of_getElem? (i := 197) (by decide +kernel)) rfl), by decide, tk_jo, nm_jo, rfl, tk_jo 0 (by decide), rfl⟩
theorem fp_la_15 : f_fp wt "BottleReturn$Latest" 15 24 1 .int := ⟨8, "BottleReturn$Latest", T_la, 2, ty_la, rfl, rfl, rfl, by decide, in_la, rfl, (wt_in (List.mem_of_getElem? (i := 217) (by decide +kernel)) rfl), by decide, tk_la, nm_la, rfl, tk_la 1 (by decide), rfl⟩
theorem fp_b_222 : f_fp wt "BottleReturn" 222 13 6 .int := ⟨3, "BottleReturn$Container", T_co, 9, ty_co, rfl, rfl, rfl, by decide, in_co, rfl, (wt_in (List.mem_of_getElem? (i := 110) (by decide +kernel)) rfl), by decide, tk_co, nm_co, rfl, tk_co 6 (by decide), rfl⟩
theorem fp_b_225 : f_fp wt "BottleReturn" 225 13 7 .int := ⟨3, "BottleReturn$Container", T_co, 9, ty_co, rfl, rfl, rfl, by decide, in_co, rfl, (wt_in (List.mem_of_getElem? (i := 112) (by decide +kernel)) rfl), by decide, tk_co, nm_co, rfl, tk_co 7 (by decide), rfl⟩
theorem fl_b_51 : f_fl wt "BottleReturn" 51 0 6 := ⟨0, "BottleReturn", T_b, 12, rfl, rfl, rfl, by decide, in_b, rfl, (wt_in (List.mem_of_getElem? (i := 229) (by decide +kernel)) rfl), by decide⟩
theorem fl_b_304 : f_fl wt "BottleReturn" 304 1 1 := ⟨1, "BottleReturn$Catalogue", T_ca, 8, rfl, rfl, rfl, by decide, in_ca, rfl, (wt_in (List.mem_of_getElem? (i := 36) (by decide +kernel)) rfl), by decide⟩
theorem fp_b_228 : f_fp wt "BottleReturn" 228 13 8 .boolean := ⟨3, "BottleReturn$Container", T_co, 9, ty_co, rfl, rfl, rfl, by decide, in_co, rfl, (wt_in (List.mem_of_getElem? (i := 114) (by decide +kernel)) rfl), by decide, tk_co, nm_co, rfl, tk_co 8 (by decide), rfl⟩
theorem fl_b_136 : f_fl wt "BottleReturn" 136 0 7 := ⟨0, "BottleReturn", T_b, 12, rfl, rfl, rfl, by decide, in_b, rfl, (wt_in (List.mem_of_getElem? (i := 230) (by decide +kernel)) rfl), by decide⟩
theorem fp_b_136 : f_fp wt "BottleReturn" 136 0 7 .int := ⟨0, "BottleReturn", T_b, 12, ty_b, rfl, rfl, rfl, by decide, in_b, rfl, (wt_in (List.mem_of_getElem? (i := 230) (by decide +kernel)) rfl), by decide, tk_b, nm_b, rfl, tk_b 7 (by decide), rfl⟩
theorem fl_b_242 : f_fl wt "BottleReturn" 242 0 9 := ⟨0, "BottleReturn", T_b, 12, rfl, rfl, rfl, by decide, in_b, rfl, (wt_in (List.mem_of_getElem? (i := 232) (by decide +kernel)) rfl), by decide⟩
theorem fp_b_242 : f_fp wt "BottleReturn" 242 0 9 .int := ⟨0, "BottleReturn", T_b, 12, ty_b, rfl, rfl, rfl, by decide, in_b, rfl, (wt_in (List.mem_of_getElem? (i := 232) (by decide +kernel)) rfl), by decide, tk_b, nm_b, rfl, tk_b 9 (by decide), rfl⟩
theorem fl_b_239 : f_fl wt "BottleReturn" 239 0 8 := ⟨0, "BottleReturn", T_b, 12, rfl, rfl, rfl, by decide, in_b, rfl, (wt_in (List.mem_of_getElem? (i := 231) (by decide +kernel)) rfl), by decide⟩
theorem fp_b_239 : f_fp wt "BottleReturn" 239 0 8 .int := ⟨0, "BottleReturn", T_b, 12, ty_b, rfl, rfl, rfl, by decide, in_b, rfl, (wt_in (List.mem_of_getElem? (i := 231) (by decide +kernel)) rfl), by decide, tk_b, nm_b, rfl, tk_b 8 (by decide), rfl⟩
theorem fp_b_133 : f_fp wt "BottleReturn" 133 0 11 .int := ⟨0, "BottleReturn", T_b, 12, ty_b, rfl, rfl, rfl, by decide, in_b, rfl, (wt_in (List.mem_of_getElem? (i := 234) (by decide +kernel)) rfl), by decide, tk_b, nm_b, rfl, tk_b 11 (by decide), rfl⟩
theorem fl_b_216 : f_fl wt "BottleReturn" 216 13 4 := ⟨3, "BottleReturn$Container", T_co, 9, rfl, rfl, rfl, by decide, in_co, rfl, (wt_in (List.mem_of_getElem? (i := 105) (by decide +kernel)) rfl), by decide⟩
theorem fl_vo_9 : f_fl wt "BottleReturn$Vouchers" 9 19 0 := ⟨6, "BottleReturn$Vouchers", T_vo, 6, rfl, rfl, rfl, by decide, in_vo, rfl, (wt_in (List.mem_of_getElem? (i := 167) (by decide +kernel)) rfl), by decide⟩
theorem fl_vo_15 : f_fl wt "BottleReturn$Vouchers" 15 19 1 := ⟨6, "BottleReturn$Vouchers", T_vo, 6, rfl, rfl, rfl, by decide, in_vo, rfl, (wt_in (List.mem_of_getElem? (i := 168) (by decide +kernel)) rfl), by decide⟩
theorem fl_vo_18 : f_fl wt "BottleReturn$Vouchers" 18 19 2 := ⟨6, "BottleReturn$Vouchers", T_vo, 6, rfl, rfl, rfl, by decide, in_vo, rfl, (wt_in (List.mem_of_getElem? (i := 170) (by decide +kernel)) rfl), by decide⟩
theorem fp_vo_22 : f_fp wt "BottleReturn$Vouchers" 22 19 3 .int := ⟨6, "BottleReturn$Vouchers", T_vo, 6, ty_vo, rfl, rfl, rfl, by decide, in_vo, rfl, (wt_in (List.mem_of_getElem? (i := 172) (by decide +kernel)) rfl), by decide, tk_vo, nm_vo, rfl, tk_vo 3 (by decide), rfl⟩
theorem fl_vo_26 : f_fl wt "BottleReturn$Vouchers" 26 19 4 := ⟨6, "BottleReturn$Vouchers", T_vo, 6, rfl, rfl, rfl, by decide, in_vo, rfl, (wt_in (List.mem_of_getElem? (i := 174) (by decide +kernel)) rfl), by decide⟩
theorem fp_vo_26 : f_fp wt "BottleReturn$Vouchers" 26 19 4 .int := ⟨6, "BottleReturn$Vouchers", T_vo, 6, ty_vo, rfl, rfl, rfl, by decide, in_vo, rfl, (wt_in (List.mem_of_getElem? (i := 174) (by decide +kernel)) rfl), by decide, tk_vo, nm_vo, rfl, tk_vo 4 (by decide), rfl⟩
theorem fl_vo_33 : f_fl wt "BottleReturn$Vouchers" 33 19 5 := ⟨6, "BottleReturn$Vouchers", T_vo, 6, rfl, rfl, rfl, by decide, in_vo, rfl, (wt_in (List.mem_of_getElem? (i := 175) (by decide +kernel)) rfl), by decide⟩
theorem fp_vo_33 : f_fp wt "BottleReturn$Vouchers" 33 19 5 .int := ⟨6, "BottleReturn$Vouchers", T_vo, 6, ty_vo, rfl, rfl, rfl, by decide, in_vo, rfl, (wt_in (List.mem_of_getElem? (i := 175) (by decide +kernel)) rfl), by decide, tk_vo, nm_vo, rfl, tk_vo 5 (by decide), rfl⟩
theorem fl_b_148 : f_fl wt "BottleReturn" 148 0 10 := ⟨0, "BottleReturn", T_b, 12, rfl, rfl, rfl, by decide, in_b, rfl, (wt_in (List.mem_of_getElem? (i := 233) (by decide +kernel)) rfl), by decide⟩
theorem fp_b_148 : f_fp wt "BottleReturn" 148 0 10 .int := ⟨0, "BottleReturn", T_b, 12, ty_b, rfl, rfl, rfl, by decide, in_b, rfl, (wt_in (List.mem_of_getElem? (i := 233) (by decide +kernel)) rfl), by decide, tk_b, nm_b, rfl, tk_b 10 (by decide), rfl⟩
theorem fl_b_154 : f_fl wt "BottleReturn" 154 19 3 := ⟨6, "BottleReturn$Vouchers", T_vo, 6, rfl, rfl, rfl, by decide, in_vo, rfl, (wt_in (List.mem_of_getElem? (i := 173) (by decide +kernel)) rfl), by decide⟩
theorem fp_b_173 : f_fp wt "BottleReturn" 173 23 1 .int := ⟨7, "BottleReturn$Journal", T_jo, 3, ty_jo, rfl, rfl, rfl, by decide, in_jo, rfl, (wt_in (List.mem_of_getElem? (i := 200) (by decide +kernel)) rfl), by decide, tk_jo, nm_jo, rfl, tk_jo 1 (by decide), rfl⟩
theorem fl_b_228 : f_fl wt "BottleReturn" 228 13 8 := ⟨3, "BottleReturn$Container", T_co, 9, rfl, rfl, rfl, by decide, in_co, rfl, (wt_in (List.mem_of_getElem? (i := 114) (by decide +kernel)) rfl), by decide⟩
theorem fl_b_176 : f_fl wt "BottleReturn" 176 23 0 := ⟨7, "BottleReturn$Journal", T_jo, 3, rfl, rfl, rfl, by decide, in_jo, rfl, (wt_in (List.mem_of_getElem? (i := 198) (by decide +kernel)) rfl), by decide⟩
theorem fp_b_116 : f_fp wt "BottleReturn" 116 23 2 .boolean := ⟨7, "BottleReturn$Journal", T_jo, 3, ty_jo, rfl, rfl, rfl, by decide, in_jo, rfl, (wt_in (List.mem_of_getElem? (i := 202) (by decide +kernel)) rfl), by decide, tk_jo, nm_jo, rfl, tk_jo 2 (by decide), rfl⟩
theorem fl_b_193 : f_fl wt "BottleReturn" 193 19 1 := ⟨6, "BottleReturn$Vouchers", T_vo, 6, rfl, rfl, rfl, by decide, in_vo, rfl, (wt_in (List.mem_of_getElem? (i := 169) (by decide +kernel)) rfl), by decide⟩
theorem fl_b_202 : f_fl wt "BottleReturn" 202 19 2 := ⟨6, "BottleReturn$Vouchers", T_vo, 6, rfl, rfl, rfl, by decide, in_vo, rfl, (wt_in (List.mem_of_getElem? (i := 171) (by decide +kernel)) rfl), by decide⟩
theorem fl_be_37 : f_fl wt "BottleReturn$Belt" 37 13 2 := ⟨3, "BottleReturn$Container", T_co, 9, rfl, rfl, rfl, by decide, in_co, rfl, (wt_in (List.mem_of_getElem? (i := 99) (by decide +kernel)) rfl), by decide⟩
theorem fl_b_219 : f_fl wt "BottleReturn" 219 13 3 := ⟨3, "BottleReturn$Container", T_co, 9, rfl, rfl, rfl, by decide, in_co, rfl, (wt_in (List.mem_of_getElem? (i := 102) (by decide +kernel)) rfl), by decide⟩
theorem fl_b_222 : f_fl wt "BottleReturn" 222 13 6 := ⟨3, "BottleReturn$Container", T_co, 9, rfl, rfl, rfl, by decide, in_co, rfl, (wt_in (List.mem_of_getElem? (i := 110) (by decide +kernel)) rfl), by decide⟩
theorem fl_b_236 : f_fl wt "BottleReturn" 236 13 2 := ⟨3, "BottleReturn$Container", T_co, 9, rfl, rfl, rfl, by decide, in_co, rfl, (wt_in (List.mem_of_getElem? (i := 100) (by decide +kernel)) rfl), by decide⟩
theorem fl_b_245 : f_fl wt "BottleReturn" 245 19 5 := ⟨6, "BottleReturn$Vouchers", T_vo, 6, rfl, rfl, rfl, by decide, in_vo, rfl, (wt_in (List.mem_of_getElem? (i := 176) (by decide +kernel)) rfl), by decide⟩
theorem fl_b_173 : f_fl wt "BottleReturn" 173 23 1 := ⟨7, "BottleReturn$Journal", T_jo, 3, rfl, rfl, rfl, by decide, in_jo, rfl, (wt_in (List.mem_of_getElem? (i := 200) (by decide +kernel)) rfl), by decide⟩
theorem fl_m_44 : f_fl wt "BottleReturnModel" 44 30 25 := ⟨9, "BottleReturnModel", T_m, 26, rfl, rfl, rfl, by decide, in_m, rfl, (wt_in (List.mem_of_getElem? (i := 742) (by decide +kernel)) rfl), by decide⟩
theorem fp_m_44 : f_fp wt "BottleReturnModel" 44 30 25 .int := ⟨9, "BottleReturnModel", T_m, 26, ty_m, rfl, rfl, rfl, by decide, in_m, rfl, (wt_in (List.mem_of_getElem? (i := 742) (by decide +kernel)) rfl), by decide, tk_m, nm_m, rfl, tk_m 25 (by decide), rfl⟩
theorem fl_m_19 : f_fl wt "BottleReturnModel" 19 30 3 := ⟨9, "BottleReturnModel", T_m, 26, rfl, rfl, rfl, by decide, in_m, rfl, (wt_in (List.mem_of_getElem? (i := 720) (by decide +kernel)) rfl), by decide⟩
theorem fl_m_52 : f_fl wt "BottleReturnModel" 52 30 4 := ⟨9, "BottleReturnModel", T_m, 26, rfl, rfl, rfl, by decide, in_m, rfl, (wt_in (List.mem_of_getElem? (i := 721) (by decide +kernel)) rfl), by decide⟩
theorem fp_m_52 : f_fp wt "BottleReturnModel" 52 30 4 .int := ⟨9, "BottleReturnModel", T_m, 26, ty_m, rfl, rfl, rfl, by decide, in_m, rfl, (wt_in (List.mem_of_getElem? (i := 721) (by decide +kernel)) rfl), by decide, tk_m, nm_m, rfl, tk_m 4 (by decide), rfl⟩
theorem fl_m_55 : f_fl wt "BottleReturnModel" 55 30 17 := ⟨9, "BottleReturnModel", T_m, 26, rfl, rfl, rfl, by decide, in_m, rfl, (wt_in (List.mem_of_getElem? (i := 734) (by decide +kernel)) rfl), by decide⟩
theorem fl_m_13 : f_fl wt "BottleReturnModel" 13 30 1 := ⟨9, "BottleReturnModel", T_m, 26, rfl, rfl, rfl, by decide, in_m, rfl, (wt_in (List.mem_of_getElem? (i := 718) (by decide +kernel)) rfl), by decide⟩
theorem fl_m_7 : f_fl wt "BottleReturnModel" 7 30 0 := ⟨9, "BottleReturnModel", T_m, 26, rfl, rfl, rfl, by decide, in_m, rfl, (wt_in (List.mem_of_getElem? (i := 717) (by decide +kernel)) rfl), by decide⟩
theorem fl_m_16 : f_fl wt "BottleReturnModel" 16 30 2 := ⟨9, "BottleReturnModel", T_m, 26, rfl, rfl, rfl, by decide, in_m, rfl, (wt_in (List.mem_of_getElem? (i := 719) (by decide +kernel)) rfl), by decide⟩
theorem fl_m_75 : f_fl wt "BottleReturnModel" 75 30 5 := ⟨9, "BottleReturnModel", T_m, 26, rfl, rfl, rfl, by decide, in_m, rfl, (wt_in (List.mem_of_getElem? (i := 722) (by decide +kernel)) rfl), by decide⟩
theorem fp_m_75 : f_fp wt "BottleReturnModel" 75 30 5 .int := ⟨9, "BottleReturnModel", T_m, 26, ty_m, rfl, rfl, rfl, by decide, in_m, rfl, (wt_in (List.mem_of_getElem? (i := 722) (by decide +kernel)) rfl), by decide, tk_m, nm_m, rfl, tk_m 5 (by decide), rfl⟩
theorem fl_m_85 : f_fl wt "BottleReturnModel" 85 30 18 := ⟨9, "BottleReturnModel", T_m, 26, rfl, rfl, rfl, by decide, in_m, rfl, (wt_in (List.mem_of_getElem? (i := 735) (by decide +kernel)) rfl), by decide⟩
theorem fp_m_85 : f_fp wt "BottleReturnModel" 85 30 18 .int := ⟨9, "BottleReturnModel", T_m, 26, ty_m, rfl, rfl, rfl, by decide, in_m, rfl, (wt_in (List.mem_of_getElem? (i := 735) (by decide +kernel)) rfl), by decide, tk_m, nm_m, rfl, tk_m 18 (by decide), rfl⟩
theorem fp_m_55 : f_fp wt "BottleReturnModel" 55 30 17 .boolean := ⟨9, "BottleReturnModel", T_m, 26, ty_m, rfl, rfl, rfl, by decide, in_m, rfl, (wt_in (List.mem_of_getElem? (i := 734) (by decide +kernel)) rfl), by decide, tk_m, nm_m, rfl, tk_m 17 (by decide), rfl⟩
theorem fl_m_88 : f_fl wt "BottleReturnModel" 88 30 19 := ⟨9, "BottleReturnModel", T_m, 26, rfl, rfl, rfl, by decide, in_m, rfl, (wt_in (List.mem_of_getElem? (i := 736) (by decide +kernel)) rfl), by decide⟩
theorem fp_m_88 : f_fp wt "BottleReturnModel" 88 30 19 .int := ⟨9, "BottleReturnModel", T_m, 26, ty_m, rfl, rfl, rfl, by decide, in_m, rfl, (wt_in (List.mem_of_getElem? (i := 736) (by decide +kernel)) rfl), by decide, tk_m, nm_m, rfl, tk_m 19 (by decide), rfl⟩
theorem fl_m_91 : f_fl wt "BottleReturnModel" 91 30 16 := ⟨9, "BottleReturnModel", T_m, 26, rfl, rfl, rfl, by decide, in_m, rfl, (wt_in (List.mem_of_getElem? (i := 733) (by decide +kernel)) rfl), by decide⟩
theorem fl_m_22 : f_fl wt "BottleReturnModel" 22 30 6 := ⟨9, "BottleReturnModel", T_m, 26, rfl, rfl, rfl, by decide, in_m, rfl, (wt_in (List.mem_of_getElem? (i := 723) (by decide +kernel)) rfl), by decide⟩
theorem fl_m_25 : f_fl wt "BottleReturnModel" 25 30 7 := ⟨9, "BottleReturnModel", T_m, 26, rfl, rfl, rfl, by decide, in_m, rfl, (wt_in (List.mem_of_getElem? (i := 724) (by decide +kernel)) rfl), by decide⟩
theorem fl_m_94 : f_fl wt "BottleReturnModel" 94 30 12 := ⟨9, "BottleReturnModel", T_m, 26, rfl, rfl, rfl, by decide, in_m, rfl, (wt_in (List.mem_of_getElem? (i := 729) (by decide +kernel)) rfl), by decide⟩
theorem fl_m_101 : f_fl wt "BottleReturnModel" 101 30 15 := ⟨9, "BottleReturnModel", T_m, 26, rfl, rfl, rfl, by decide, in_m, rfl, (wt_in (List.mem_of_getElem? (i := 732) (by decide +kernel)) rfl), by decide⟩
theorem fl_m_38 : f_fl wt "BottleReturnModel" 38 30 14 := ⟨9, "BottleReturnModel", T_m, 26, rfl, rfl, rfl, by decide, in_m, rfl, (wt_in (List.mem_of_getElem? (i := 731) (by decide +kernel)) rfl), by decide⟩
theorem fl_m_41 : f_fl wt "BottleReturnModel" 41 30 20 := ⟨9, "BottleReturnModel", T_m, 26, rfl, rfl, rfl, by decide, in_m, rfl, (wt_in (List.mem_of_getElem? (i := 737) (by decide +kernel)) rfl), by decide⟩
theorem fp_m_101 : f_fp wt "BottleReturnModel" 101 30 15 .int := ⟨9, "BottleReturnModel", T_m, 26, ty_m, rfl, rfl, rfl, by decide, in_m, rfl, (wt_in (List.mem_of_getElem? (i := 732) (by decide +kernel)) rfl), by decide, tk_m, nm_m, rfl, tk_m 15 (by decide), rfl⟩
theorem fl_m_110 : f_fl wt "BottleReturnModel" 110 30 8 := ⟨9, "BottleReturnModel", T_m, 26, rfl, rfl, rfl, by decide, in_m, rfl, (wt_in (List.mem_of_getElem? (i := 725) (by decide +kernel)) rfl), by decide⟩
theorem fp_m_110 : f_fp wt "BottleReturnModel" 110 30 8 .int := ⟨9, "BottleReturnModel", T_m, 26, ty_m, rfl, rfl, rfl, by decide, in_m, rfl, (wt_in (List.mem_of_getElem? (i := 725) (by decide +kernel)) rfl), by decide, tk_m, nm_m, rfl, tk_m 8 (by decide), rfl⟩
theorem fl_m_113 : f_fl wt "BottleReturnModel" 113 30 21 := ⟨9, "BottleReturnModel", T_m, 26, rfl, rfl, rfl, by decide, in_m, rfl, (wt_in (List.mem_of_getElem? (i := 738) (by decide +kernel)) rfl), by decide⟩
theorem fp_m_113 : f_fp wt "BottleReturnModel" 113 30 21 .int := ⟨9, "BottleReturnModel", T_m, 26, ty_m, rfl, rfl, rfl, by decide, in_m, rfl, (wt_in (List.mem_of_getElem? (i := 738) (by decide +kernel)) rfl), by decide, tk_m, nm_m, rfl, tk_m 21 (by decide), rfl⟩
theorem fl_m_116 : f_fl wt "BottleReturnModel" 116 30 22 := ⟨9, "BottleReturnModel", T_m, 26, rfl, rfl, rfl, by decide, in_m, rfl, (wt_in (List.mem_of_getElem? (i := 739) (by decide +kernel)) rfl), by decide⟩
theorem fp_m_116 : f_fp wt "BottleReturnModel" 116 30 22 .int := ⟨9, "BottleReturnModel", T_m, 26, ty_m, rfl, rfl, rfl, by decide, in_m, rfl, (wt_in (List.mem_of_getElem? (i := 739) (by decide +kernel)) rfl), by decide, tk_m, nm_m, rfl, tk_m 22 (by decide), rfl⟩
theorem fp_m_91 : f_fp wt "BottleReturnModel" 91 30 16 .int := ⟨9, "BottleReturnModel", T_m, 26, ty_m, rfl, rfl, rfl, by decide, in_m, rfl, (wt_in (List.mem_of_getElem? (i := 733) (by decide +kernel)) rfl), by decide, tk_m, nm_m, rfl, tk_m 16 (by decide), rfl⟩
theorem fl_m_139 : f_fl wt "BottleReturnModel" 139 30 13 := ⟨9, "BottleReturnModel", T_m, 26, rfl, rfl, rfl, by decide, in_m, rfl, (wt_in (List.mem_of_getElem? (i := 730) (by decide +kernel)) rfl), by decide⟩
theorem fp_m_139 : f_fp wt "BottleReturnModel" 139 30 13 .int := ⟨9, "BottleReturnModel", T_m, 26, ty_m, rfl, rfl, rfl, by decide, in_m, rfl, (wt_in (List.mem_of_getElem? (i := 730) (by decide +kernel)) rfl), by decide, tk_m, nm_m, rfl, tk_m 13 (by decide), rfl⟩
theorem fl_m_28 : f_fl wt "BottleReturnModel" 28 30 9 := ⟨9, "BottleReturnModel", T_m, 26, rfl, rfl, rfl, by decide, in_m, rfl, (wt_in (List.mem_of_getElem? (i := 726) (by decide +kernel)) rfl), by decide⟩
theorem fl_m_31 : f_fl wt "BottleReturnModel" 31 30 10 := ⟨9, "BottleReturnModel", T_m, 26, rfl, rfl, rfl, by decide, in_m, rfl, (wt_in (List.mem_of_getElem? (i := 727) (by decide +kernel)) rfl), by decide⟩
theorem fl_m_34 : f_fl wt "BottleReturnModel" 34 30 11 := ⟨9, "BottleReturnModel", T_m, 26, rfl, rfl, rfl, by decide, in_m, rfl, (wt_in (List.mem_of_getElem? (i := 728) (by decide +kernel)) rfl), by decide⟩
theorem fp_m_94 : f_fp wt "BottleReturnModel" 94 30 12 .int := ⟨9, "BottleReturnModel", T_m, 26, ty_m, rfl, rfl, rfl, by decide, in_m, rfl, (wt_in (List.mem_of_getElem? (i := 729) (by decide +kernel)) rfl), by decide, tk_m, nm_m, rfl, tk_m 12 (by decide), rfl⟩
theorem fl_m_142 : f_fl wt "BottleReturnModel" 142 30 23 := ⟨9, "BottleReturnModel", T_m, 26, rfl, rfl, rfl, by decide, in_m, rfl, (wt_in (List.mem_of_getElem? (i := 740) (by decide +kernel)) rfl), by decide⟩
theorem fp_m_142 : f_fp wt "BottleReturnModel" 142 30 23 .int := ⟨9, "BottleReturnModel", T_m, 26, ty_m, rfl, rfl, rfl, by decide, in_m, rfl, (wt_in (List.mem_of_getElem? (i := 740) (by decide +kernel)) rfl), by decide, tk_m, nm_m, rfl, tk_m 23 (by decide), rfl⟩
theorem fl_m_145 : f_fl wt "BottleReturnModel" 145 30 24 := ⟨9, "BottleReturnModel", T_m, 26, rfl, rfl, rfl, by decide, in_m, rfl, (wt_in (List.mem_of_getElem? (i := 741) (by decide +kernel)) rfl), by decide⟩
theorem fp_m_145 : f_fp wt "BottleReturnModel" 145 30 24 .int := ⟨9, "BottleReturnModel", T_m, 26, ty_m, rfl, rfl, rfl, by decide, in_m, rfl, (wt_in (List.mem_of_getElem? (i := 741) (by decide +kernel)) rfl), by decide, tk_m, nm_m, rfl, tk_m 24 (by decide), rfl⟩
theorem st_b_55 : f_sv "BottleReturn" 55 y_b_requireOn c_b_requireOn 1 ((Option.none : Option Jvm.ClassFile.FieldType)) 0 := ⟨w_b_requireOn, (wt_in (List.mem_of_getElem? (i := 1) (by decide +kernel)) rfl), (wt_in (List.mem_of_getElem? (i := 316) (by decide +kernel)) rfl), ⟨(wt_in (List.mem_of_getElem? (i := 318) (by decide +kernel)) rfl), (wt_sel (List.mem_of_getElem? (i := 4) (by decide +kernel)) rfl)⟩, ⟨by decide, by decide⟩, by decide +kernel⟩
theorem st_b_58 : f_ss "BottleReturn" 58 y_b_isIndex c_b_isIndex 2 ((some FieldType.boolean)) 2 := ⟨w_b_isIndex, (wt_in (List.mem_of_getElem? (i := 1) (by decide +kernel)) rfl), (wt_in (List.mem_of_getElem? (i := 304) (by decide +kernel)) rfl), (wt_in (List.mem_of_getElem? (i := 305) (by decide +kernel)) rfl), ⟨by decide, by decide⟩, by decide +kernel⟩
theorem st_b_62 : f_ss "BottleReturn" 62 y_b_require c_b_require 1 ((Option.none : Option Jvm.ClassFile.FieldType)) 1 := ⟨w_b_require, (wt_in (List.mem_of_getElem? (i := 1) (by decide +kernel)) rfl), (wt_in (List.mem_of_getElem? (i := 382) (by decide +kernel)) rfl), (wt_in (List.mem_of_getElem? (i := 383) (by decide +kernel)) rfl), ⟨by decide, by decide⟩, by decide +kernel⟩
theorem st_b_66 : f_ss "BottleReturn" 66 y_b_isWithin c_b_isWithin 3 ((some FieldType.boolean)) 3 := ⟨w_b_isWithin, (wt_in (List.mem_of_getElem? (i := 1) (by decide +kernel)) rfl), (wt_in (List.mem_of_getElem? (i := 400) (by decide +kernel)) rfl), (wt_in (List.mem_of_getElem? (i := 401) (by decide +kernel)) rfl), ⟨by decide, by decide⟩, by decide +kernel⟩
theorem st_b_70 : f_sv "BottleReturn" 70 y_ca_setContour c_ca_setContour 7 ((Option.none : Option Jvm.ClassFile.FieldType)) 4 := ⟨w_ca_setContour, (wt_in (List.mem_of_getElem? (i := 2) (by decide +kernel)) rfl), (wt_in (List.mem_of_getElem? (i := 403) (by decide +kernel)) rfl), ⟨(wt_in (List.mem_of_getElem? (i := 404) (by decide +kernel)) rfl), (wt_in (List.mem_of_getElem? (i := 405) (by decide +kernel)) rfl)⟩, ⟨by decide, by decide⟩, by decide +kernel⟩
theorem st_b_74 : f_sv "BottleReturn" 74 y_b_requireEmptyBelt c_b_requireEmptyBelt 1 ((Option.none : Option Jvm.ClassFile.FieldType)) 0 := ⟨w_b_requireEmptyBelt, (wt_in (List.mem_of_getElem? (i := 1) (by decide +kernel)) rfl), (wt_in (List.mem_of_getElem? (i := 414) (by decide +kernel)) rfl), ⟨(wt_in (List.mem_of_getElem? (i := 416) (by decide +kernel)) rfl), (wt_sel (List.mem_of_getElem? (i := 6) (by decide +kernel)) rfl)⟩, ⟨by decide, by decide⟩, by decide +kernel⟩
theorem st_b_78 : f_sv "BottleReturn" 78 y_ca_kindWith c_ca_kindWith 3 ((some FieldType.int)) 1 := ⟨w_ca_kindWith, (wt_in (List.mem_of_getElem? (i := 2) (by decide +kernel)) rfl), (wt_in (List.mem_of_getElem? (i := 419) (by decide +kernel)) rfl), ⟨(wt_in (List.mem_of_getElem? (i := 420) (by decide +kernel)) rfl), (wt_in (List.mem_of_getElem? (i := 421) (by decide +kernel)) rfl)⟩, ⟨by decide, by decide⟩, by decide +kernel⟩
theorem st_b_82 : f_sv "BottleReturn" 82 y_ca_dropCode c_ca_dropCode 2 ((Option.none : Option Jvm.ClassFile.FieldType)) 1 := ⟨w_ca_dropCode, (wt_in (List.mem_of_getElem? (i := 2) (by decide +kernel)) rfl), (wt_in (List.mem_of_getElem? (i := 423) (by decide +kernel)) rfl), ⟨(wt_in (List.mem_of_getElem? (i := 424) (by decide +kernel)) rfl), (wt_in (List.mem_of_getElem? (i := 425) (by decide +kernel)) rfl)⟩, ⟨by decide, by decide⟩, by decide +kernel⟩
theorem st_b_86 : f_sv "BottleReturn" 86 y_ca_setKind c_ca_setKind 8 ((Option.none : Option Jvm.ClassFile.FieldType)) 7 := ⟨w_ca_setKind, (wt_in (List.mem_of_getElem? (i := 2) (by decide +kernel)) rfl), (wt_in (List.mem_of_getElem? (i := 427) (by decide +kernel)) rfl), ⟨(wt_in (List.mem_of_getElem? (i := 428) (by decide +kernel)) rfl), (wt_in (List.mem_of_getElem? (i := 429) (by decide +kernel)) rfl)⟩, ⟨by decide, by decide⟩, by decide +kernel⟩
theorem st_co_37 : f_sv "BottleReturn$Container" 37 y_co_forget c_co_forget 1 ((Option.none : Option Jvm.ClassFile.FieldType)) 0 := ⟨w_co_forget, (wt_in (List.mem_of_getElem? (i := 4) (by decide +kernel)) rfl), (wt_in (List.mem_of_getElem? (i := 447) (by decide +kernel)) rfl), ⟨(wt_in (List.mem_of_getElem? (i := 269) (by decide +kernel)) rfl), (wt_in (List.mem_of_getElem? (i := 270) (by decide +kernel)) rfl)⟩, ⟨by decide, by decide⟩, by decide +kernel⟩
theorem st_be_22 : f_sv "BottleReturn$Belt" 22 y_co_rear c_co_rear 1 ((some FieldType.int)) 0 := ⟨w_co_rear, (wt_in (List.mem_of_getElem? (i := 4) (by decide +kernel)) rfl), (wt_in (List.mem_of_getElem? (i := 442) (by decide +kernel)) rfl), ⟨(wt_in (List.mem_of_getElem? (i := 289) (by decide +kernel)) rfl), (wt_in (List.mem_of_getElem? (i := 290) (by decide +kernel)) rfl)⟩, ⟨by decide, by decide⟩, by decide +kernel⟩
theorem st_be_29 : f_sv "BottleReturn$Belt" 29 y_co_begin c_co_begin 3 ((Option.none : Option Jvm.ClassFile.FieldType)) 2 := ⟨w_co_begin, (wt_in (List.mem_of_getElem? (i := 4) (by decide +kernel)) rfl), (wt_in (List.mem_of_getElem? (i := 443) (by decide +kernel)) rfl), ⟨(wt_in (List.mem_of_getElem? (i := 444) (by decide +kernel)) rfl), (wt_in (List.mem_of_getElem? (i := 445) (by decide +kernel)) rfl)⟩, ⟨by decide, by decide⟩, by decide +kernel⟩
theorem st_b_90 : f_sv "BottleReturn" 90 y_be_putIn c_be_putIn 2 ((some FieldType.int)) 1 := ⟨w_be_putIn, (wt_in (List.mem_of_getElem? (i := 3) (by decide +kernel)) rfl), (wt_in (List.mem_of_getElem? (i := 438) (by decide +kernel)) rfl), ⟨(wt_in (List.mem_of_getElem? (i := 439) (by decide +kernel)) rfl), (wt_in (List.mem_of_getElem? (i := 440) (by decide +kernel)) rfl)⟩, ⟨by decide, by decide⟩, by decide +kernel⟩
theorem st_co_52 : f_sv "BottleReturn$Container" 52 y_co_rear c_co_rear 1 ((some FieldType.int)) 0 := ⟨w_co_rear, (wt_in (List.mem_of_getElem? (i := 4) (by decide +kernel)) rfl), (wt_in (List.mem_of_getElem? (i := 463) (by decide +kernel)) rfl), ⟨(wt_in (List.mem_of_getElem? (i := 289) (by decide +kernel)) rfl), (wt_in (List.mem_of_getElem? (i := 290) (by decide +kernel)) rfl)⟩, ⟨by decide, by decide⟩, by decide +kernel⟩
theorem st_be_33 : f_sv "BottleReturn$Belt" 33 y_co_isOver c_co_isOver 2 ((some FieldType.boolean)) 1 := ⟨w_co_isOver, (wt_in (List.mem_of_getElem? (i := 4) (by decide +kernel)) rfl), (wt_in (List.mem_of_getElem? (i := 459) (by decide +kernel)) rfl), ⟨(wt_in (List.mem_of_getElem? (i := 460) (by decide +kernel)) rfl), (wt_in (List.mem_of_getElem? (i := 461) (by decide +kernel)) rfl)⟩, ⟨by decide, by decide⟩, by decide +kernel⟩
theorem st_ro_17 : f_sv "BottleReturn$Row" 17 y_ro_isFull c_ro_isFull 1 ((some FieldType.boolean)) 0 := ⟨w_ro_isFull, (wt_in (List.mem_of_getElem? (i := 5) (by decide +kernel)) rfl), (wt_in (List.mem_of_getElem? (i := 468) (by decide +kernel)) rfl), ⟨(wt_in (List.mem_of_getElem? (i := 469) (by decide +kernel)) rfl), (wt_in (List.mem_of_getElem? (i := 470) (by decide +kernel)) rfl)⟩, ⟨by decide, by decide⟩, by decide +kernel⟩
theorem st_b_93 : f_sv "BottleReturn" 93 y_be_over c_be_over 3 ((Option.some (Jvm.ClassFile.FieldType.object "BottleReturn$Container"))) 1 := ⟨w_be_over, (wt_in (List.mem_of_getElem? (i := 3) (by decide +kernel)) rfl), (wt_in (List.mem_of_getElem? (i := 455) (by decide +kernel)) rfl), ⟨(wt_in (List.mem_of_getElem? (i := 456) (by decide +kernel)) rfl), (wt_in (List.mem_of_getElem? (i := 457) (by decide +kernel)) rfl)⟩, ⟨by decide, by decide⟩, by decide +kernel⟩
theorem st_b_103 : f_sv "BottleReturn" 103 y_ro_take c_ro_take 2 ((some FieldType.boolean)) 1 := ⟨w_ro_take, (wt_in (List.mem_of_getElem? (i := 5) (by decide +kernel)) rfl), (wt_in (List.mem_of_getElem? (i := 464) (by decide +kernel)) rfl), ⟨(wt_in (List.mem_of_getElem? (i := 465) (by decide +kernel)) rfl), (wt_in (List.mem_of_getElem? (i := 466) (by decide +kernel)) rfl)⟩, ⟨by decide, by decide⟩, by decide +kernel⟩
theorem st_ca_52 : f_sv "BottleReturn$Catalogue" 52 y_ca_kindWith c_ca_kindWith 3 ((some FieldType.int)) 1 := ⟨w_ca_kindWith, (wt_in (List.mem_of_getElem? (i := 2) (by decide +kernel)) rfl), (wt_in (List.mem_of_getElem? (i := 517) (by decide +kernel)) rfl), ⟨(wt_in (List.mem_of_getElem? (i := 420) (by decide +kernel)) rfl), (wt_in (List.mem_of_getElem? (i := 421) (by decide +kernel)) rfl)⟩, ⟨by decide, by decide⟩, by decide +kernel⟩
theorem st_ca_56 : f_sn "BottleReturn$Catalogue" 56 y_b_isWithin "BottleReturn" c_b_isWithin 3 ((some FieldType.boolean)) 3 := ⟨w_b_isWithin, (wt_in (List.mem_of_getElem? (i := 1) (by decide +kernel)) rfl), (wt_in (List.mem_of_getElem? (i := 401) (by decide +kernel)) rfl), ⟨by decide, by decide⟩, by decide +kernel⟩
theorem st_ca_60 : f_sv "BottleReturn$Catalogue" 60 y_ro_isFull c_ro_isFull 1 ((some FieldType.boolean)) 0 := ⟨w_ro_isFull, (wt_in (List.mem_of_getElem? (i := 5) (by decide +kernel)) rfl), (wt_in (List.mem_of_getElem? (i := 535) (by decide +kernel)) rfl), ⟨(wt_in (List.mem_of_getElem? (i := 469) (by decide +kernel)) rfl), (wt_in (List.mem_of_getElem? (i := 470) (by decide +kernel)) rfl)⟩, ⟨by decide, by decide⟩, by decide +kernel⟩
theorem st_ca_64 : f_ss "BottleReturn$Catalogue" 64 Lib.Math.abs.name Lib.Math.abs.code 1 (some FieldType.int) 1 := ⟨wt_in (List.mem_of_getElem? (i := 538) (by decide +kernel)) rfl, (wt_in (List.mem_of_getElem? (i := 16) (by decide +kernel)) rfl), (wt_in (List.mem_of_getElem? (i := 536) (by decide +kernel)) rfl), (wt_in (List.mem_of_getElem? (i := 537) (by decide +kernel)) rfl), ⟨by decide, by decide⟩, by decide +kernel⟩
theorem st_b_285 : f_sv "BottleReturn" 285 y_ro_isUniform c_ro_isUniform 2 ((some FieldType.boolean)) 0 := ⟨w_ro_isUniform, (wt_in (List.mem_of_getElem? (i := 5) (by decide +kernel)) rfl), (wt_in (List.mem_of_getElem? (i := 522) (by decide +kernel)) rfl), ⟨(wt_in (List.mem_of_getElem? (i := 523) (by decide +kernel)) rfl), (wt_in (List.mem_of_getElem? (i := 524) (by decide +kernel)) rfl)⟩, ⟨by decide, by decide⟩, by decide +kernel⟩
theorem st_b_288 : f_sv "BottleReturn" 288 y_ca_allowsWeight c_ca_allowsWeight 3 ((some FieldType.boolean)) 2 := ⟨w_ca_allowsWeight, (wt_in (List.mem_of_getElem? (i := 2) (by decide +kernel)) rfl), (wt_in (List.mem_of_getElem? (i := 526) (by decide +kernel)) rfl), ⟨(wt_in (List.mem_of_getElem? (i := 527) (by decide +kernel)) rfl), (wt_in (List.mem_of_getElem? (i := 528) (by decide +kernel)) rfl)⟩, ⟨by decide, by decide⟩, by decide +kernel⟩
theorem st_b_291 : f_sv "BottleReturn" 291 y_ca_allowsWidths c_ca_allowsWidths 6 ((some FieldType.boolean)) 2 := ⟨w_ca_allowsWidths, (wt_in (List.mem_of_getElem? (i := 2) (by decide +kernel)) rfl), (wt_in (List.mem_of_getElem? (i := 531) (by decide +kernel)) rfl), ⟨(wt_in (List.mem_of_getElem? (i := 532) (by decide +kernel)) rfl), (wt_in (List.mem_of_getElem? (i := 533) (by decide +kernel)) rfl)⟩, ⟨by decide, by decide⟩, by decide +kernel⟩
theorem st_la_19 : f_sv "BottleReturn$Latest" 19 y_la_isLike c_la_isLike 3 ((some FieldType.boolean)) 1 := ⟨w_la_isLike, (wt_in (List.mem_of_getElem? (i := 9) (by decide +kernel)) rfl), (wt_in (List.mem_of_getElem? (i := 559) (by decide +kernel)) rfl), ⟨(wt_in (List.mem_of_getElem? (i := 560) (by decide +kernel)) rfl), (wt_in (List.mem_of_getElem? (i := 561) (by decide +kernel)) rfl)⟩, ⟨by decide, by decide⟩, by decide +kernel⟩
theorem st_b_297 : f_sv "BottleReturn" 297 y_b_acceptedFor c_b_acceptedFor 5 ((some FieldType.int)) 1 := ⟨w_b_acceptedFor, (wt_in (List.mem_of_getElem? (i := 1) (by decide +kernel)) rfl), (wt_in (List.mem_of_getElem? (i := 543) (by decide +kernel)) rfl), ⟨(wt_in (List.mem_of_getElem? (i := 545) (by decide +kernel)) rfl), (wt_sel (List.mem_of_getElem? (i := 12) (by decide +kernel)) rfl)⟩, ⟨by decide, by decide⟩, by decide +kernel⟩
theorem st_b_139 : f_sv "BottleReturn" 139 y_vo_isFull c_vo_isFull 1 ((some FieldType.boolean)) 0 := ⟨w_vo_isFull, (wt_in (List.mem_of_getElem? (i := 7) (by decide +kernel)) rfl), (wt_in (List.mem_of_getElem? (i := 547) (by decide +kernel)) rfl), ⟨(wt_in (List.mem_of_getElem? (i := 548) (by decide +kernel)) rfl), (wt_in (List.mem_of_getElem? (i := 549) (by decide +kernel)) rfl)⟩, ⟨by decide, by decide⟩, by decide +kernel⟩
theorem st_b_170 : f_sv "BottleReturn" 170 y_b_isSuspicious c_b_isSuspicious 1 ((some FieldType.boolean)) 0 := ⟨w_b_isSuspicious, (wt_in (List.mem_of_getElem? (i := 1) (by decide +kernel)) rfl), (wt_in (List.mem_of_getElem? (i := 551) (by decide +kernel)) rfl), ⟨(wt_in (List.mem_of_getElem? (i := 553) (by decide +kernel)) rfl), (wt_sel (List.mem_of_getElem? (i := 13) (by decide +kernel)) rfl)⟩, ⟨by decide, by decide⟩, by decide +kernel⟩
theorem st_b_300 : f_sv "BottleReturn" 300 y_la_areAllLike c_la_areAllLike 2 ((some FieldType.boolean)) 1 := ⟨w_la_areAllLike, (wt_in (List.mem_of_getElem? (i := 9) (by decide +kernel)) rfl), (wt_in (List.mem_of_getElem? (i := 555) (by decide +kernel)) rfl), ⟨(wt_in (List.mem_of_getElem? (i := 556) (by decide +kernel)) rfl), (wt_in (List.mem_of_getElem? (i := 557) (by decide +kernel)) rfl)⟩, ⟨by decide, by decide⟩, by decide +kernel⟩
theorem st_b_270 : f_sv "BottleReturn" 270 y_ca_kindOf c_ca_kindOf 2 ((some FieldType.int)) 1 := ⟨w_ca_kindOf, (wt_in (List.mem_of_getElem? (i := 2) (by decide +kernel)) rfl), (wt_in (List.mem_of_getElem? (i := 513) (by decide +kernel)) rfl), ⟨(wt_in (List.mem_of_getElem? (i := 514) (by decide +kernel)) rfl), (wt_in (List.mem_of_getElem? (i := 515) (by decide +kernel)) rfl)⟩, ⟨by decide, by decide⟩, by decide +kernel⟩
theorem st_b_274 : f_sv "BottleReturn" 274 y_b_judgementByReadings c_b_judgementByReadings 3 ((some FieldType.int)) 2 := ⟨w_b_judgementByReadings, (wt_in (List.mem_of_getElem? (i := 1) (by decide +kernel)) rfl), (wt_in (List.mem_of_getElem? (i := 518) (by decide +kernel)) rfl), ⟨(wt_in (List.mem_of_getElem? (i := 520) (by decide +kernel)) rfl), (wt_sel (List.mem_of_getElem? (i := 10) (by decide +kernel)) rfl)⟩, ⟨by decide, by decide⟩, by decide +kernel⟩
theorem st_b_278 : f_sv "BottleReturn" 278 y_b_judgementByState c_b_judgementByState 4 ((some FieldType.int)) 2 := ⟨w_b_judgementByState, (wt_in (List.mem_of_getElem? (i := 1) (by decide +kernel)) rfl), (wt_in (List.mem_of_getElem? (i := 539) (by decide +kernel)) rfl), ⟨(wt_in (List.mem_of_getElem? (i := 541) (by decide +kernel)) rfl), (wt_sel (List.mem_of_getElem? (i := 11) (by decide +kernel)) rfl)⟩, ⟨by decide, by decide⟩, by decide +kernel⟩
theorem st_b_142 : f_sv "BottleReturn" 142 y_jo_write c_jo_write 1 ((some FieldType.boolean)) 0 := ⟨w_jo_write, (wt_in (List.mem_of_getElem? (i := 8) (by decide +kernel)) rfl), (wt_in (List.mem_of_getElem? (i := 280) (by decide +kernel)) rfl), ⟨(wt_in (List.mem_of_getElem? (i := 281) (by decide +kernel)) rfl), (wt_in (List.mem_of_getElem? (i := 282) (by decide +kernel)) rfl)⟩, ⟨by decide, by decide⟩, by decide +kernel⟩
theorem st_b_281 : f_sv "BottleReturn" 281 y_la_note c_la_note 2 ((Option.none : Option Jvm.ClassFile.FieldType)) 1 := ⟨w_la_note, (wt_in (List.mem_of_getElem? (i := 9) (by decide +kernel)) rfl), (wt_in (List.mem_of_getElem? (i := 563) (by decide +kernel)) rfl), ⟨(wt_in (List.mem_of_getElem? (i := 564) (by decide +kernel)) rfl), (wt_in (List.mem_of_getElem? (i := 565) (by decide +kernel)) rfl)⟩, ⟨by decide, by decide⟩, by decide +kernel⟩
theorem st_b_307 : f_sv "BottleReturn" 307 y_be_takeOff c_be_takeOff 4 ((Option.none : Option Jvm.ClassFile.FieldType)) 1 := ⟨w_be_takeOff, (wt_in (List.mem_of_getElem? (i := 3) (by decide +kernel)) rfl), (wt_in (List.mem_of_getElem? (i := 296) (by decide +kernel)) rfl), ⟨(wt_in (List.mem_of_getElem? (i := 297) (by decide +kernel)) rfl), (wt_in (List.mem_of_getElem? (i := 298) (by decide +kernel)) rfl)⟩, ⟨by decide, by decide⟩, by decide +kernel⟩
theorem st_b_257 : f_sv "BottleReturn" 257 y_co_rear c_co_rear 1 ((some FieldType.int)) 0 := ⟨w_co_rear, (wt_in (List.mem_of_getElem? (i := 4) (by decide +kernel)) rfl), (wt_in (List.mem_of_getElem? (i := 288) (by decide +kernel)) rfl), ⟨(wt_in (List.mem_of_getElem? (i := 289) (by decide +kernel)) rfl), (wt_in (List.mem_of_getElem? (i := 290) (by decide +kernel)) rfl)⟩, ⟨by decide, by decide⟩, by decide +kernel⟩
theorem st_b_267 : f_sv "BottleReturn" 267 y_b_intoBin c_b_intoBin 3 ((some FieldType.boolean)) 1 := ⟨w_b_intoBin, (wt_in (List.mem_of_getElem? (i := 1) (by decide +kernel)) rfl), (wt_in (List.mem_of_getElem? (i := 292) (by decide +kernel)) rfl), ⟨(wt_in (List.mem_of_getElem? (i := 294) (by decide +kernel)) rfl), (wt_sel (List.mem_of_getElem? (i := 3) (by decide +kernel)) rfl)⟩, ⟨by decide, by decide⟩, by decide +kernel⟩
theorem st_b_264 : f_sv "BottleReturn" 264 y_b_pay c_b_pay 3 ((Option.none : Option Jvm.ClassFile.FieldType)) 1 := ⟨w_b_pay, (wt_in (List.mem_of_getElem? (i := 1) (by decide +kernel)) rfl), (wt_in (List.mem_of_getElem? (i := 276) (by decide +kernel)) rfl), ⟨(wt_in (List.mem_of_getElem? (i := 278) (by decide +kernel)) rfl), (wt_sel (List.mem_of_getElem? (i := 1) (by decide +kernel)) rfl)⟩, ⟨by decide, by decide⟩, by decide +kernel⟩
theorem st_b_260 : f_sv "BottleReturn" 260 y_b_judge c_b_judge 4 ((Option.none : Option Jvm.ClassFile.FieldType)) 1 := ⟨w_b_judge, (wt_in (List.mem_of_getElem? (i := 1) (by decide +kernel)) rfl), (wt_in (List.mem_of_getElem? (i := 509) (by decide +kernel)) rfl), ⟨(wt_in (List.mem_of_getElem? (i := 511) (by decide +kernel)) rfl), (wt_sel (List.mem_of_getElem? (i := 9) (by decide +kernel)) rfl)⟩, ⟨by decide, by decide⟩, by decide +kernel⟩
theorem st_b_251 : f_sv "BottleReturn" 251 y_be_moveUp c_be_moveUp 2 ((Option.none : Option Jvm.ClassFile.FieldType)) 0 := ⟨w_be_moveUp, (wt_in (List.mem_of_getElem? (i := 3) (by decide +kernel)) rfl), (wt_in (List.mem_of_getElem? (i := 501) (by decide +kernel)) rfl), ⟨(wt_in (List.mem_of_getElem? (i := 502) (by decide +kernel)) rfl), (wt_in (List.mem_of_getElem? (i := 503) (by decide +kernel)) rfl)⟩, ⟨by decide, by decide⟩, by decide +kernel⟩
theorem st_b_254 : f_sv "BottleReturn" 254 y_b_leavesOnArrival c_b_leavesOnArrival 3 ((some FieldType.boolean)) 1 := ⟨w_b_leavesOnArrival, (wt_in (List.mem_of_getElem? (i := 1) (by decide +kernel)) rfl), (wt_in (List.mem_of_getElem? (i := 505) (by decide +kernel)) rfl), ⟨(wt_in (List.mem_of_getElem? (i := 507) (by decide +kernel)) rfl), (wt_sel (List.mem_of_getElem? (i := 8) (by decide +kernel)) rfl)⟩, ⟨by decide, by decide⟩, by decide +kernel⟩
theorem st_b_120 : f_sv "BottleReturn" 120 y_be_isBlocked c_be_isBlocked 2 ((some FieldType.boolean)) 0 := ⟨w_be_isBlocked, (wt_in (List.mem_of_getElem? (i := 3) (by decide +kernel)) rfl), (wt_in (List.mem_of_getElem? (i := 493) (by decide +kernel)) rfl), ⟨(wt_in (List.mem_of_getElem? (i := 494) (by decide +kernel)) rfl), (wt_in (List.mem_of_getElem? (i := 495) (by decide +kernel)) rfl)⟩, ⟨by decide, by decide⟩, by decide +kernel⟩
theorem st_b_124 : f_sv "BottleReturn" 124 y_b_stepForward c_b_stepForward 3 ((Option.none : Option Jvm.ClassFile.FieldType)) 0 := ⟨w_b_stepForward, (wt_in (List.mem_of_getElem? (i := 1) (by decide +kernel)) rfl), (wt_in (List.mem_of_getElem? (i := 497) (by decide +kernel)) rfl), ⟨(wt_in (List.mem_of_getElem? (i := 499) (by decide +kernel)) rfl), (wt_sel (List.mem_of_getElem? (i := 7) (by decide +kernel)) rfl)⟩, ⟨by decide, by decide⟩, by decide +kernel⟩
theorem st_be_50 : f_sv "BottleReturn$Belt" 50 y_co_forget c_co_forget 1 ((Option.none : Option Jvm.ClassFile.FieldType)) 0 := ⟨w_co_forget, (wt_in (List.mem_of_getElem? (i := 4) (by decide +kernel)) rfl), (wt_in (List.mem_of_getElem? (i := 268) (by decide +kernel)) rfl), ⟨(wt_in (List.mem_of_getElem? (i := 269) (by decide +kernel)) rfl), (wt_in (List.mem_of_getElem? (i := 270) (by decide +kernel)) rfl)⟩, ⟨by decide, by decide⟩, by decide +kernel⟩
theorem st_be_53 : f_sv "BottleReturn$Belt" 53 y_be_takeOff c_be_takeOff 4 ((Option.none : Option Jvm.ClassFile.FieldType)) 1 := ⟨w_be_takeOff, (wt_in (List.mem_of_getElem? (i := 3) (by decide +kernel)) rfl), (wt_in (List.mem_of_getElem? (i := 585) (by decide +kernel)) rfl), ⟨(wt_in (List.mem_of_getElem? (i := 297) (by decide +kernel)) rfl), (wt_in (List.mem_of_getElem? (i := 298) (by decide +kernel)) rfl)⟩, ⟨by decide, by decide⟩, by decide +kernel⟩
theorem st_be_46 : f_sv "BottleReturn$Belt" 46 y_be_moveDownAt c_be_moveDownAt 3 ((Option.none : Option Jvm.ClassFile.FieldType)) 1 := ⟨w_be_moveDownAt, (wt_in (List.mem_of_getElem? (i := 3) (by decide +kernel)) rfl), (wt_in (List.mem_of_getElem? (i := 581) (by decide +kernel)) rfl), ⟨(wt_in (List.mem_of_getElem? (i := 582) (by decide +kernel)) rfl), (wt_in (List.mem_of_getElem? (i := 583) (by decide +kernel)) rfl)⟩, ⟨by decide, by decide⟩, by decide +kernel⟩
theorem st_b_130 : f_sv "BottleReturn" 130 y_be_moveDown c_be_moveDown 3 ((some FieldType.boolean)) 0 := ⟨w_be_moveDown, (wt_in (List.mem_of_getElem? (i := 3) (by decide +kernel)) rfl), (wt_in (List.mem_of_getElem? (i := 577) (by decide +kernel)) rfl), ⟨(wt_in (List.mem_of_getElem? (i := 578) (by decide +kernel)) rfl), (wt_in (List.mem_of_getElem? (i := 579) (by decide +kernel)) rfl)⟩, ⟨by decide, by decide⟩, by decide +kernel⟩
theorem st_vo_29 : f_sv "BottleReturn$Vouchers" 29 y_vo_keep c_vo_keep 4 ((Option.none : Option Jvm.ClassFile.FieldType)) 3 := ⟨w_vo_keep, (wt_in (List.mem_of_getElem? (i := 7) (by decide +kernel)) rfl), (wt_in (List.mem_of_getElem? (i := 597) (by decide +kernel)) rfl), ⟨(wt_in (List.mem_of_getElem? (i := 598) (by decide +kernel)) rfl), (wt_in (List.mem_of_getElem? (i := 599) (by decide +kernel)) rfl)⟩, ⟨by decide, by decide⟩, by decide +kernel⟩
theorem st_b_145 : f_sv "BottleReturn" 145 y_vo_issue c_vo_issue 2 ((some FieldType.int)) 1 := ⟨w_vo_issue, (wt_in (List.mem_of_getElem? (i := 7) (by decide +kernel)) rfl), (wt_in (List.mem_of_getElem? (i := 593) (by decide +kernel)) rfl), ⟨(wt_in (List.mem_of_getElem? (i := 594) (by decide +kernel)) rfl), (wt_in (List.mem_of_getElem? (i := 595) (by decide +kernel)) rfl)⟩, ⟨by decide, by decide⟩, by decide +kernel⟩
theorem st_b_151 : f_sv "BottleReturn" 151 y_vo_placeOf c_vo_placeOf 3 ((some FieldType.int)) 1 := ⟨w_vo_placeOf, (wt_in (List.mem_of_getElem? (i := 7) (by decide +kernel)) rfl), (wt_in (List.mem_of_getElem? (i := 615) (by decide +kernel)) rfl), ⟨(wt_in (List.mem_of_getElem? (i := 616) (by decide +kernel)) rfl), (wt_in (List.mem_of_getElem? (i := 617) (by decide +kernel)) rfl)⟩, ⟨by decide, by decide⟩, by decide +kernel⟩
theorem st_b_157 : f_sv "BottleReturn" 157 y_vo_payOut c_vo_payOut 2 ((some FieldType.int)) 1 := ⟨w_vo_payOut, (wt_in (List.mem_of_getElem? (i := 7) (by decide +kernel)) rfl), (wt_in (List.mem_of_getElem? (i := 619) (by decide +kernel)) rfl), ⟨(wt_in (List.mem_of_getElem? (i := 620) (by decide +kernel)) rfl), (wt_in (List.mem_of_getElem? (i := 621) (by decide +kernel)) rfl)⟩, ⟨by decide, by decide⟩, by decide +kernel⟩
theorem st_b_160 : f_sv "BottleReturn" 160 y_vo_forgetRedeemed c_vo_forgetRedeemed 3 ((some FieldType.int)) 0 := ⟨w_vo_forgetRedeemed, (wt_in (List.mem_of_getElem? (i := 7) (by decide +kernel)) rfl), (wt_in (List.mem_of_getElem? (i := 630) (by decide +kernel)) rfl), ⟨(wt_in (List.mem_of_getElem? (i := 631) (by decide +kernel)) rfl), (wt_in (List.mem_of_getElem? (i := 632) (by decide +kernel)) rfl)⟩, ⟨by decide, by decide⟩, by decide +kernel⟩
theorem st_b_179 : f_sv "BottleReturn" 179 y_be_forgetBefore c_be_forgetBefore 3 ((Option.none : Option Jvm.ClassFile.FieldType)) 1 := ⟨w_be_forgetBefore, (wt_in (List.mem_of_getElem? (i := 3) (by decide +kernel)) rfl), (wt_in (List.mem_of_getElem? (i := 264) (by decide +kernel)) rfl), ⟨(wt_in (List.mem_of_getElem? (i := 265) (by decide +kernel)) rfl), (wt_in (List.mem_of_getElem? (i := 266) (by decide +kernel)) rfl)⟩, ⟨by decide, by decide⟩, by decide +kernel⟩
theorem st_b_182 : f_sv "BottleReturn" 182 y_b_payUnpaid c_b_payUnpaid 3 ((Option.none : Option Jvm.ClassFile.FieldType)) 0 := ⟨w_b_payUnpaid, (wt_in (List.mem_of_getElem? (i := 1) (by decide +kernel)) rfl), (wt_in (List.mem_of_getElem? (i := 272) (by decide +kernel)) rfl), ⟨(wt_in (List.mem_of_getElem? (i := 274) (by decide +kernel)) rfl), (wt_sel (List.mem_of_getElem? (i := 0) (by decide +kernel)) rfl)⟩, ⟨by decide, by decide⟩, by decide +kernel⟩
theorem st_b_185 : f_sv "BottleReturn" 185 y_b_binWaiting c_b_binWaiting 4 ((Option.none : Option Jvm.ClassFile.FieldType)) 0 := ⟨w_b_binWaiting, (wt_in (List.mem_of_getElem? (i := 1) (by decide +kernel)) rfl), (wt_in (List.mem_of_getElem? (i := 284) (by decide +kernel)) rfl), ⟨(wt_in (List.mem_of_getElem? (i := 286) (by decide +kernel)) rfl), (wt_sel (List.mem_of_getElem? (i := 2) (by decide +kernel)) rfl)⟩, ⟨by decide, by decide⟩, by decide +kernel⟩
theorem st_vo_36 : f_sv "BottleReturn$Vouchers" 36 y_vo_firstDigits c_vo_firstDigits 2 ((some FieldType.int)) 1 := ⟨w_vo_firstDigits, (wt_in (List.mem_of_getElem? (i := 7) (by decide +kernel)) rfl), (wt_in (List.mem_of_getElem? (i := 680) (by decide +kernel)) rfl), ⟨(wt_in (List.mem_of_getElem? (i := 673) (by decide +kernel)) rfl), (wt_in (List.mem_of_getElem? (i := 674) (by decide +kernel)) rfl)⟩, ⟨by decide, by decide⟩, by decide +kernel⟩
theorem st_b_196 : f_sv "BottleReturn" 196 y_vo_firstDigits c_vo_firstDigits 2 ((some FieldType.int)) 1 := ⟨w_vo_firstDigits, (wt_in (List.mem_of_getElem? (i := 7) (by decide +kernel)) rfl), (wt_in (List.mem_of_getElem? (i := 672) (by decide +kernel)) rfl), ⟨(wt_in (List.mem_of_getElem? (i := 673) (by decide +kernel)) rfl), (wt_in (List.mem_of_getElem? (i := 674) (by decide +kernel)) rfl)⟩, ⟨by decide, by decide⟩, by decide +kernel⟩
theorem st_b_199 : f_sv "BottleReturn" 199 y_vo_lastDigits c_vo_lastDigits 5 ((some FieldType.int)) 1 := ⟨w_vo_lastDigits, (wt_in (List.mem_of_getElem? (i := 7) (by decide +kernel)) rfl), (wt_in (List.mem_of_getElem? (i := 676) (by decide +kernel)) rfl), ⟨(wt_in (List.mem_of_getElem? (i := 677) (by decide +kernel)) rfl), (wt_in (List.mem_of_getElem? (i := 678) (by decide +kernel)) rfl)⟩, ⟨by decide, by decide⟩, by decide +kernel⟩
theorem st_b_206 : f_ss "BottleReturn" 206 y_b_asNumber c_b_asNumber 1 ((some FieldType.int)) 1 := ⟨w_b_asNumber, (wt_in (List.mem_of_getElem? (i := 1) (by decide +kernel)) rfl), (wt_in (List.mem_of_getElem? (i := 683) (by decide +kernel)) rfl), (wt_in (List.mem_of_getElem? (i := 684) (by decide +kernel)) rfl), ⟨by decide, by decide⟩, by decide +kernel⟩
theorem st_b_213 : f_sv "BottleReturn" 213 y_be_withNumber c_be_withNumber 3 ((Option.some (Jvm.ClassFile.FieldType.object "BottleReturn$Container"))) 1 := ⟨w_be_withNumber, (wt_in (List.mem_of_getElem? (i := 3) (by decide +kernel)) rfl), (wt_in (List.mem_of_getElem? (i := 693) (by decide +kernel)) rfl), ⟨(wt_in (List.mem_of_getElem? (i := 694) (by decide +kernel)) rfl), (wt_in (List.mem_of_getElem? (i := 695) (by decide +kernel)) rfl)⟩, ⟨by decide, by decide⟩, by decide +kernel⟩
theorem st_m_48 : f_sv "BottleReturnModel" 48 y_m_get c_m_get 3 ((some FieldType.int)) 2 := ⟨w_m_get, (wt_in (List.mem_of_getElem? (i := 10) (by decide +kernel)) rfl), (wt_in (List.mem_of_getElem? (i := 828) (by decide +kernel)) rfl), ⟨(wt_in (List.mem_of_getElem? (i := 830) (by decide +kernel)) rfl), (wt_sel (List.mem_of_getElem? (i := 17) (by decide +kernel)) rfl)⟩, ⟨by decide, by decide⟩, by decide +kernel⟩
theorem st_m_59 : f_sv "BottleReturnModel" 59 y_m_fails c_m_fails 3 ((some FieldType.boolean)) 2 := ⟨w_m_fails, (wt_in (List.mem_of_getElem? (i := 10) (by decide +kernel)) rfl), (wt_in (List.mem_of_getElem? (i := 804) (by decide +kernel)) rfl), ⟨(wt_in (List.mem_of_getElem? (i := 806) (by decide +kernel)) rfl), (wt_sel (List.mem_of_getElem? (i := 14) (by decide +kernel)) rfl)⟩, ⟨by decide, by decide⟩, by decide +kernel⟩
theorem st_m_63 : f_ss "BottleReturnModel" 63 y_m_within c_m_within 3 ((some FieldType.boolean)) 3 := ⟨w_m_within, (wt_in (List.mem_of_getElem? (i := 10) (by decide +kernel)) rfl), (wt_in (List.mem_of_getElem? (i := 808) (by decide +kernel)) rfl), (wt_in (List.mem_of_getElem? (i := 809) (by decide +kernel)) rfl), ⟨by decide, by decide⟩, by decide +kernel⟩
theorem st_m_68 : f_sv "BottleReturnModel" 68 y_m_kindOf c_m_kindOf 3 ((some FieldType.int)) 1 := ⟨w_m_kindOf, (wt_in (List.mem_of_getElem? (i := 10) (by decide +kernel)) rfl), (wt_in (List.mem_of_getElem? (i := 816) (by decide +kernel)) rfl), ⟨(wt_in (List.mem_of_getElem? (i := 818) (by decide +kernel)) rfl), (wt_sel (List.mem_of_getElem? (i := 15) (by decide +kernel)) rfl)⟩, ⟨by decide, by decide⟩, by decide +kernel⟩
theorem st_m_72 : f_sv "BottleReturnModel" 72 y_m_rear c_m_rear 2 ((some FieldType.int)) 1 := ⟨w_m_rear, (wt_in (List.mem_of_getElem? (i := 10) (by decide +kernel)) rfl), (wt_in (List.mem_of_getElem? (i := 824) (by decide +kernel)) rfl), ⟨(wt_in (List.mem_of_getElem? (i := 826) (by decide +kernel)) rfl), (wt_sel (List.mem_of_getElem? (i := 16) (by decide +kernel)) rfl)⟩, ⟨by decide, by decide⟩, by decide +kernel⟩
theorem st_m_78 : f_sv "BottleReturnModel" 78 y_m_put c_m_put 4 ((Option.none : Option Jvm.ClassFile.FieldType)) 3 := ⟨w_m_put, (wt_in (List.mem_of_getElem? (i := 10) (by decide +kernel)) rfl), (wt_in (List.mem_of_getElem? (i := 832) (by decide +kernel)) rfl), ⟨(wt_in (List.mem_of_getElem? (i := 834) (by decide +kernel)) rfl), (wt_sel (List.mem_of_getElem? (i := 18) (by decide +kernel)) rfl)⟩, ⟨by decide, by decide⟩, by decide +kernel⟩
theorem st_m_82 : f_sv "BottleReturnModel" 82 y_m_over c_m_over 3 ((some FieldType.int)) 1 := ⟨w_m_over, (wt_in (List.mem_of_getElem? (i := 10) (by decide +kernel)) rfl), (wt_in (List.mem_of_getElem? (i := 840) (by decide +kernel)) rfl), ⟨(wt_in (List.mem_of_getElem? (i := 842) (by decide +kernel)) rfl), (wt_sel (List.mem_of_getElem? (i := 19) (by decide +kernel)) rfl)⟩, ⟨by decide, by decide⟩, by decide +kernel⟩
theorem st_m_97 : f_sv "BottleReturnModel" 97 y_m_isSuspicious c_m_isSuspicious 1 ((some FieldType.boolean)) 0 := ⟨w_m_isSuspicious, (wt_in (List.mem_of_getElem? (i := 10) (by decide +kernel)) rfl), (wt_in (List.mem_of_getElem? (i := 868) (by decide +kernel)) rfl), ⟨(wt_in (List.mem_of_getElem? (i := 870) (by decide +kernel)) rfl), (wt_sel (List.mem_of_getElem? (i := 23) (by decide +kernel)) rfl)⟩, ⟨by decide, by decide⟩, by decide +kernel⟩
theorem st_m_104 : f_sv "BottleReturnModel" 104 y_m_against c_m_against 9 ((some FieldType.int)) 1 := ⟨w_m_against, (wt_in (List.mem_of_getElem? (i := 10) (by decide +kernel)) rfl), (wt_in (List.mem_of_getElem? (i := 864) (by decide +kernel)) rfl), ⟨(wt_in (List.mem_of_getElem? (i := 866) (by decide +kernel)) rfl), (wt_sel (List.mem_of_getElem? (i := 22) (by decide +kernel)) rfl)⟩, ⟨by decide, by decide⟩, by decide +kernel⟩
theorem st_m_107 : f_sv "BottleReturnModel" 107 y_m_writes c_m_writes 1 ((some FieldType.boolean)) 0 := ⟨w_m_writes, (wt_in (List.mem_of_getElem? (i := 10) (by decide +kernel)) rfl), (wt_in (List.mem_of_getElem? (i := 872) (by decide +kernel)) rfl), ⟨(wt_in (List.mem_of_getElem? (i := 874) (by decide +kernel)) rfl), (wt_sel (List.mem_of_getElem? (i := 24) (by decide +kernel)) rfl)⟩, ⟨by decide, by decide⟩, by decide +kernel⟩
theorem st_m_119 : f_sv "BottleReturnModel" 119 y_m_remove c_m_remove 3 ((Option.none : Option Jvm.ClassFile.FieldType)) 1 := ⟨w_m_remove, (wt_in (List.mem_of_getElem? (i := 10) (by decide +kernel)) rfl), (wt_in (List.mem_of_getElem? (i := 884) (by decide +kernel)) rfl), ⟨(wt_in (List.mem_of_getElem? (i := 886) (by decide +kernel)) rfl), (wt_sel (List.mem_of_getElem? (i := 27) (by decide +kernel)) rfl)⟩, ⟨by decide, by decide⟩, by decide +kernel⟩
theorem st_m_123 : f_sv "BottleReturnModel" 123 y_m_isBlocked c_m_isBlocked 2 ((some FieldType.boolean)) 0 := ⟨w_m_isBlocked, (wt_in (List.mem_of_getElem? (i := 10) (by decide +kernel)) rfl), (wt_in (List.mem_of_getElem? (i := 856) (by decide +kernel)) rfl), ⟨(wt_in (List.mem_of_getElem? (i := 858) (by decide +kernel)) rfl), (wt_sel (List.mem_of_getElem? (i := 20) (by decide +kernel)) rfl)⟩, ⟨by decide, by decide⟩, by decide +kernel⟩
theorem st_m_126 : f_sv "BottleReturnModel" 126 y_m_judge c_m_judge 4 ((Option.none : Option Jvm.ClassFile.FieldType)) 1 := ⟨w_m_judge, (wt_in (List.mem_of_getElem? (i := 10) (by decide +kernel)) rfl), (wt_in (List.mem_of_getElem? (i := 860) (by decide +kernel)) rfl), ⟨(wt_in (List.mem_of_getElem? (i := 862) (by decide +kernel)) rfl), (wt_sel (List.mem_of_getElem? (i := 21) (by decide +kernel)) rfl)⟩, ⟨by decide, by decide⟩, by decide +kernel⟩
theorem st_m_129 : f_sv "BottleReturnModel" 129 y_m_pay c_m_pay 3 ((Option.none : Option Jvm.ClassFile.FieldType)) 1 := ⟨w_m_pay, (wt_in (List.mem_of_getElem? (i := 10) (by decide +kernel)) rfl), (wt_in (List.mem_of_getElem? (i := 876) (by decide +kernel)) rfl), ⟨(wt_in (List.mem_of_getElem? (i := 878) (by decide +kernel)) rfl), (wt_sel (List.mem_of_getElem? (i := 25) (by decide +kernel)) rfl)⟩, ⟨by decide, by decide⟩, by decide +kernel⟩
theorem st_m_132 : f_sv "BottleReturnModel" 132 y_m_drop c_m_drop 2 ((some FieldType.boolean)) 1 := ⟨w_m_drop, (wt_in (List.mem_of_getElem? (i := 10) (by decide +kernel)) rfl), (wt_in (List.mem_of_getElem? (i := 880) (by decide +kernel)) rfl), ⟨(wt_in (List.mem_of_getElem? (i := 882) (by decide +kernel)) rfl), (wt_sel (List.mem_of_getElem? (i := 26) (by decide +kernel)) rfl)⟩, ⟨by decide, by decide⟩, by decide +kernel⟩
theorem st_m_136 : f_sv "BottleReturnModel" 136 y_m_forget c_m_forget 2 ((Option.none : Option Jvm.ClassFile.FieldType)) 1 := ⟨w_m_forget, (wt_in (List.mem_of_getElem? (i := 10) (by decide +kernel)) rfl), (wt_in (List.mem_of_getElem? (i := 892) (by decide +kernel)) rfl), ⟨(wt_in (List.mem_of_getElem? (i := 894) (by decide +kernel)) rfl), (wt_sel (List.mem_of_getElem? (i := 28) (by decide +kernel)) rfl)⟩, ⟨by decide, by decide⟩, by decide +kernel⟩
theorem st_m_148 : f_sv "BottleReturnModel" 148 y_m_voucherAt c_m_voucherAt 3 ((some FieldType.int)) 1 := ⟨w_m_voucherAt, (wt_in (List.mem_of_getElem? (i := 10) (by decide +kernel)) rfl), (wt_in (List.mem_of_getElem? (i := 908) (by decide +kernel)) rfl), ⟨(wt_in (List.mem_of_getElem? (i := 910) (by decide +kernel)) rfl), (wt_sel (List.mem_of_getElem? (i := 29) (by decide +kernel)) rfl)⟩, ⟨by decide, by decide⟩, by decide +kernel⟩
theorem st_m_151 : f_ss "BottleReturnModel" 151 y_m_rest c_m_rest 6 ((some FieldType.int)) 3 := ⟨w_m_rest, (wt_in (List.mem_of_getElem? (i := 10) (by decide +kernel)) rfl), (wt_in (List.mem_of_getElem? (i := 937) (by decide +kernel)) rfl), (wt_in (List.mem_of_getElem? (i := 938) (by decide +kernel)) rfl), ⟨by decide, by decide⟩, by decide +kernel⟩
theorem st_m_156 : f_sv "BottleReturnModel" 156 y_m_endOf c_m_endOf 2 ((some FieldType.int)) 1 := ⟨w_m_endOf, (wt_in (List.mem_of_getElem? (i := 10) (by decide +kernel)) rfl), (wt_in (List.mem_of_getElem? (i := 944) (by decide +kernel)) rfl), ⟨(wt_in (List.mem_of_getElem? (i := 946) (by decide +kernel)) rfl), (wt_sel (List.mem_of_getElem? (i := 30) (by decide +kernel)) rfl)⟩, ⟨by decide, by decide⟩, by decide +kernel⟩
theorem st_m_159 : f_sv "BottleReturnModel" 159 y_m_find c_m_find 3 ((some FieldType.int)) 1 := ⟨w_m_find, (wt_in (List.mem_of_getElem? (i := 10) (by decide +kernel)) rfl), (wt_in (List.mem_of_getElem? (i := 952) (by decide +kernel)) rfl), ⟨(wt_in (List.mem_of_getElem? (i := 954) (by decide +kernel)) rfl), (wt_sel (List.mem_of_getElem? (i := 31) (by decide +kernel)) rfl)⟩, ⟨by decide, by decide⟩, by decide +kernel⟩
theorem tw_b_248_250 : f_tw wt "BottleReturn" 248 250 1 := ⟨(wt_in (List.mem_of_getElem? (i := 320) (by decide +kernel)) rfl), (wt_in (List.mem_of_getElem? (i := 14) (by decide +kernel)) rfl), by decide +kernel, by decide +kernel⟩
theorem tw_b_210_212 : f_tw wt "BottleReturn" 210 212 2 := ⟨(wt_in (List.mem_of_getElem? (i := 385) (by decide +kernel)) rfl), (wt_in (List.mem_of_getElem? (i := 15) (by decide +kernel)) rfl), by decide +kernel, by decide +kernel⟩
end
section
/-! decode rows -/
theorem d_b_requireOn_0 : decode c_b_requireOn 0 = .ok (.aload_n 0, 1) := by decide +kernel
theorem d_b_requireOn_1 : decode c_b_requireOn 1 = .ok (.getfield 40, 3) := by decide +kernel
theorem d_b_requireOn_4 : decode c_b_requireOn 4 = .ok (.getfield 116, 3) := by decide +kernel
theorem d_b_requireOn_7 : decode c_b_requireOn 7 = .ok (.ifCond .ne 11, 3) := by decide +kernel
theorem d_b_requireOn_10 : decode c_b_requireOn 10 = .ok (.new 248, 3) := by decide +kernel
theorem d_b_requireOn_13 : decode c_b_requireOn 13 = .ok (.dup, 1) := by decide +kernel
theorem d_b_requireOn_14 : decode c_b_requireOn 14 = .ok (.invokespecial 250, 3) := by decide +kernel
theorem d_b_requireOn_17 : decode c_b_requireOn 17 = .ok (.athrow, 1) := by decide +kernel
theorem d_b_requireOn_18 : decode c_b_requireOn 18 = .ok (.return_, 1) := by decide +kernel
theorem d_b_isIndex_0 : decode c_b_isIndex 0 = .ok (.iload_n 0, 1) := by decide +kernel
theorem d_b_isIndex_1 : decode c_b_isIndex 1 = .ok (.ifCond .lt 12, 3) := by decide +kernel
theorem d_b_isIndex_4 : decode c_b_isIndex 4 = .ok (.iload_n 0, 1) := by decide +kernel
theorem d_b_isIndex_5 : decode c_b_isIndex 5 = .ok (.iload_n 1, 1) := by decide +kernel
theorem d_b_isIndex_6 : decode c_b_isIndex 6 = .ok (.if_icmp .ge 7, 3) := by decide +kernel
theorem d_b_isIndex_9 : decode c_b_isIndex 9 = .ok (.iconst 1, 1) := by decide +kernel
theorem d_b_isIndex_10 : decode c_b_isIndex 10 = .ok (.goto 4, 3) := by decide +kernel
theorem d_b_isIndex_13 : decode c_b_isIndex 13 = .ok (.iconst 0, 1) := by decide +kernel
theorem d_b_isIndex_14 : decode c_b_isIndex 14 = .ok (.ireturn, 1) := by decide +kernel
theorem d_b_require_0 : decode c_b_require 0 = .ok (.iload_n 0, 1) := by decide +kernel
theorem d_b_require_1 : decode c_b_require 1 = .ok (.ifCond .ne 11, 3) := by decide +kernel
theorem d_b_require_4 : decode c_b_require 4 = .ok (.new 210, 3) := by decide +kernel
theorem d_b_require_7 : decode c_b_require 7 = .ok (.dup, 1) := by decide +kernel
theorem d_b_require_8 : decode c_b_require 8 = .ok (.invokespecial 212, 3) := by decide +kernel
theorem d_b_require_11 : decode c_b_require 11 = .ok (.athrow, 1) := by decide +kernel
theorem d_b_require_12 : decode c_b_require 12 = .ok (.return_, 1) := by decide +kernel
theorem d_b_isWithin_0 : decode c_b_isWithin 0 = .ok (.iload_n 0, 1) := by decide +kernel
theorem d_b_isWithin_1 : decode c_b_isWithin 1 = .ok (.iload_n 1, 1) := by decide +kernel
theorem d_b_isWithin_2 : decode c_b_isWithin 2 = .ok (.if_icmp .lt 12, 3) := by decide +kernel
theorem d_b_isWithin_5 : decode c_b_isWithin 5 = .ok (.iload_n 0, 1) := by decide +kernel
theorem d_b_isWithin_6 : decode c_b_isWithin 6 = .ok (.iload_n 2, 1) := by decide +kernel
theorem d_b_isWithin_7 : decode c_b_isWithin 7 = .ok (.if_icmp .gt 7, 3) := by decide +kernel
theorem d_b_isWithin_10 : decode c_b_isWithin 10 = .ok (.iconst 1, 1) := by decide +kernel
theorem d_b_isWithin_11 : decode c_b_isWithin 11 = .ok (.goto 4, 3) := by decide +kernel
theorem d_b_isWithin_14 : decode c_b_isWithin 14 = .ok (.iconst 0, 1) := by decide +kernel
theorem d_b_isWithin_15 : decode c_b_isWithin 15 = .ok (.ireturn, 1) := by decide +kernel
theorem d_ca_setContour_0 : decode c_ca_setContour 0 = .ok (.iconst 0, 1) := by decide +kernel
theorem d_ca_setContour_1 : decode c_ca_setContour 1 = .ok (.istore 5, 2) := by decide +kernel
theorem d_ca_setContour_3 : decode c_ca_setContour 3 = .ok (.iload 5, 2) := by decide +kernel
theorem d_ca_setContour_5 : decode c_ca_setContour 5 = .ok (.bipush 8, 2) := by decide +kernel
theorem d_ca_setContour_7 : decode c_ca_setContour 7 = .ok (.if_icmp .ge 48, 3) := by decide +kernel
theorem d_ca_setContour_10 : decode c_ca_setContour 10 = .ok (.iload 5, 2) := by decide +kernel
theorem d_ca_setContour_12 : decode c_ca_setContour 12 = .ok (.iconst 4, 1) := by decide +kernel
theorem d_ca_setContour_13 : decode c_ca_setContour 13 = .ok (.if_icmp .ge 7, 3) := by decide +kernel
theorem d_ca_setContour_16 : decode c_ca_setContour 16 = .ok (.iload_n 2, 1) := by decide +kernel
theorem d_ca_setContour_17 : decode c_ca_setContour 17 = .ok (.goto 4, 3) := by decide +kernel
theorem d_ca_setContour_20 : decode c_ca_setContour 20 = .ok (.iload_n 3, 1) := by decide +kernel
theorem d_ca_setContour_21 : decode c_ca_setContour 21 = .ok (.istore 6, 2) := by decide +kernel
theorem d_ca_setContour_23 : decode c_ca_setContour 23 = .ok (.aload_n 0, 1) := by decide +kernel
theorem d_ca_setContour_24 : decode c_ca_setContour 24 = .ok (.getfield 32, 3) := by decide +kernel
theorem d_ca_setContour_27 : decode c_ca_setContour 27 = .ok (.iload_n 1, 1) := by decide +kernel
theorem d_ca_setContour_28 : decode c_ca_setContour 28 = .ok (.aaload, 1) := by decide +kernel
theorem d_ca_setContour_29 : decode c_ca_setContour 29 = .ok (.iload 5, 2) := by decide +kernel
theorem d_ca_setContour_31 : decode c_ca_setContour 31 = .ok (.iload 6, 2) := by decide +kernel
theorem d_ca_setContour_33 : decode c_ca_setContour 33 = .ok (.bipush 24, 2) := by decide +kernel
theorem d_ca_setContour_35 : decode c_ca_setContour 35 = .ok (.iload 5, 2) := by decide +kernel
theorem d_ca_setContour_37 : decode c_ca_setContour 37 = .ok (.iconst 4, 1) := by decide +kernel
theorem d_ca_setContour_38 : decode c_ca_setContour 38 = .ok (.irem, 1) := by decide +kernel
theorem d_ca_setContour_39 : decode c_ca_setContour 39 = .ok (.bipush 8, 2) := by decide +kernel
theorem d_ca_setContour_41 : decode c_ca_setContour 41 = .ok (.imul, 1) := by decide +kernel
theorem d_ca_setContour_42 : decode c_ca_setContour 42 = .ok (.isub, 1) := by decide +kernel
theorem d_ca_setContour_43 : decode c_ca_setContour 43 = .ok (.iushr, 1) := by decide +kernel
theorem d_ca_setContour_44 : decode c_ca_setContour 44 = .ok (.sipush 255, 3) := by decide +kernel
theorem d_ca_setContour_47 : decode c_ca_setContour 47 = .ok (.iand, 1) := by decide +kernel
theorem d_ca_setContour_48 : decode c_ca_setContour 48 = .ok (.iastore, 1) := by decide +kernel
theorem d_ca_setContour_49 : decode c_ca_setContour 49 = .ok (.iinc 5 1, 3) := by decide +kernel
theorem d_ca_setContour_52 : decode c_ca_setContour 52 = .ok (.goto (-49), 3) := by decide +kernel
theorem d_ca_setContour_55 : decode c_ca_setContour 55 = .ok (.aload_n 0, 1) := by decide +kernel
theorem d_ca_setContour_56 : decode c_ca_setContour 56 = .ok (.getfield 35, 3) := by decide +kernel
theorem d_ca_setContour_59 : decode c_ca_setContour 59 = .ok (.iload_n 1, 1) := by decide +kernel
theorem d_ca_setContour_60 : decode c_ca_setContour 60 = .ok (.iload 4, 2) := by decide +kernel
theorem d_ca_setContour_62 : decode c_ca_setContour 62 = .ok (.iastore, 1) := by decide +kernel
theorem d_ca_setContour_63 : decode c_ca_setContour 63 = .ok (.return_, 1) := by decide +kernel
theorem d_b_contour_0 : decode c_b_contour 0 = .ok (.aload_n 0, 1) := by decide +kernel
theorem d_b_contour_1 : decode c_b_contour 1 = .ok (.invokevirtual 55, 3) := by decide +kernel
theorem d_b_contour_4 : decode c_b_contour 4 = .ok (.iload_n 1, 1) := by decide +kernel
theorem d_b_contour_5 : decode c_b_contour 5 = .ok (.bipush 8, 2) := by decide +kernel
theorem d_b_contour_7 : decode c_b_contour 7 = .ok (.invokestatic 58, 3) := by decide +kernel
theorem d_b_contour_10 : decode c_b_contour 10 = .ok (.invokestatic 62, 3) := by decide +kernel
theorem d_b_contour_13 : decode c_b_contour 13 = .ok (.iload 4, 2) := by decide +kernel
theorem d_b_contour_15 : decode c_b_contour 15 = .ok (.iconst 0, 1) := by decide +kernel
theorem d_b_contour_16 : decode c_b_contour 16 = .ok (.sipush 2040, 3) := by decide +kernel
theorem d_b_contour_19 : decode c_b_contour 19 = .ok (.invokestatic 66, 3) := by decide +kernel
theorem d_b_contour_22 : decode c_b_contour 22 = .ok (.invokestatic 62, 3) := by decide +kernel
theorem d_b_contour_25 : decode c_b_contour 25 = .ok (.aload_n 0, 1) := by decide +kernel
theorem d_b_contour_26 : decode c_b_contour 26 = .ok (.getfield 12, 3) := by decide +kernel
theorem d_b_contour_29 : decode c_b_contour 29 = .ok (.iload_n 1, 1) := by decide +kernel
theorem d_b_contour_30 : decode c_b_contour 30 = .ok (.iload_n 2, 1) := by decide +kernel
theorem d_b_contour_31 : decode c_b_contour 31 = .ok (.iload_n 3, 1) := by decide +kernel
theorem d_b_contour_32 : decode c_b_contour 32 = .ok (.iload 4, 2) := by decide +kernel
theorem d_b_contour_34 : decode c_b_contour 34 = .ok (.invokevirtual 70, 3) := by decide +kernel
theorem d_b_contour_37 : decode c_b_contour 37 = .ok (.return_, 1) := by decide +kernel
theorem d_b_requireEmptyBelt_0 : decode c_b_requireEmptyBelt 0 = .ok (.aload_n 0, 1) := by decide +kernel
theorem d_b_requireEmptyBelt_1 : decode c_b_requireEmptyBelt 1 = .ok (.getfield 19, 3) := by decide +kernel
theorem d_b_requireEmptyBelt_4 : decode c_b_requireEmptyBelt 4 = .ok (.getfield 127, 3) := by decide +kernel
theorem d_b_requireEmptyBelt_7 : decode c_b_requireEmptyBelt 7 = .ok (.ifCond .le 11, 3) := by decide +kernel
theorem d_b_requireEmptyBelt_10 : decode c_b_requireEmptyBelt 10 = .ok (.new 248, 3) := by decide +kernel
theorem d_b_requireEmptyBelt_13 : decode c_b_requireEmptyBelt 13 = .ok (.dup, 1) := by decide +kernel
theorem d_b_requireEmptyBelt_14 : decode c_b_requireEmptyBelt 14 = .ok (.invokespecial 250, 3) := by decide +kernel
theorem d_b_requireEmptyBelt_17 : decode c_b_requireEmptyBelt 17 = .ok (.athrow, 1) := by decide +kernel
theorem d_b_requireEmptyBelt_18 : decode c_b_requireEmptyBelt 18 = .ok (.return_, 1) := by decide +kernel
theorem d_ca_kindWith_0 : decode c_ca_kindWith 0 = .ok (.iconst 0, 1) := by decide +kernel
theorem d_ca_kindWith_1 : decode c_ca_kindWith 1 = .ok (.istore_n 2, 1) := by decide +kernel
theorem d_ca_kindWith_2 : decode c_ca_kindWith 2 = .ok (.iload_n 2, 1) := by decide +kernel
theorem d_ca_kindWith_3 : decode c_ca_kindWith 3 = .ok (.bipush 40, 2) := by decide +kernel
theorem d_ca_kindWith_5 : decode c_ca_kindWith 5 = .ok (.if_icmp .ge 21, 3) := by decide +kernel
theorem d_ca_kindWith_8 : decode c_ca_kindWith 8 = .ok (.aload_n 0, 1) := by decide +kernel
theorem d_ca_kindWith_9 : decode c_ca_kindWith 9 = .ok (.getfield 9, 3) := by decide +kernel
theorem d_ca_kindWith_12 : decode c_ca_kindWith 12 = .ok (.iload_n 2, 1) := by decide +kernel
theorem d_ca_kindWith_13 : decode c_ca_kindWith 13 = .ok (.iaload, 1) := by decide +kernel
theorem d_ca_kindWith_14 : decode c_ca_kindWith 14 = .ok (.iload_n 1, 1) := by decide +kernel
theorem d_ca_kindWith_15 : decode c_ca_kindWith 15 = .ok (.if_icmp .ne 5, 3) := by decide +kernel
theorem d_ca_kindWith_18 : decode c_ca_kindWith 18 = .ok (.iload_n 2, 1) := by decide +kernel
theorem d_ca_kindWith_19 : decode c_ca_kindWith 19 = .ok (.ireturn, 1) := by decide +kernel
theorem d_ca_kindWith_20 : decode c_ca_kindWith 20 = .ok (.iinc 2 1, 3) := by decide +kernel
theorem d_ca_kindWith_23 : decode c_ca_kindWith 23 = .ok (.goto (-21), 3) := by decide +kernel
theorem d_ca_kindWith_26 : decode c_ca_kindWith 26 = .ok (.iconst (-1), 1) := by decide +kernel
theorem d_ca_kindWith_27 : decode c_ca_kindWith 27 = .ok (.ireturn, 1) := by decide +kernel
theorem d_ca_dropCode_0 : decode c_ca_dropCode 0 = .ok (.iload_n 1, 1) := by decide +kernel
theorem d_ca_dropCode_1 : decode c_ca_dropCode 1 = .ok (.iconst (-1), 1) := by decide +kernel
theorem d_ca_dropCode_2 : decode c_ca_dropCode 2 = .ok (.if_icmp .eq 10, 3) := by decide +kernel
theorem d_ca_dropCode_5 : decode c_ca_dropCode 5 = .ok (.aload_n 0, 1) := by decide +kernel
theorem d_ca_dropCode_6 : decode c_ca_dropCode 6 = .ok (.getfield 9, 3) := by decide +kernel
theorem d_ca_dropCode_9 : decode c_ca_dropCode 9 = .ok (.iload_n 1, 1) := by decide +kernel
theorem d_ca_dropCode_10 : decode c_ca_dropCode 10 = .ok (.iconst 0, 1) := by decide +kernel
theorem d_ca_dropCode_11 : decode c_ca_dropCode 11 = .ok (.iastore, 1) := by decide +kernel
theorem d_ca_dropCode_12 : decode c_ca_dropCode 12 = .ok (.return_, 1) := by decide +kernel
theorem d_ca_setKind_0 : decode c_ca_setKind 0 = .ok (.aload_n 0, 1) := by decide +kernel
theorem d_ca_setKind_1 : decode c_ca_setKind 1 = .ok (.getfield 9, 3) := by decide +kernel
theorem d_ca_setKind_4 : decode c_ca_setKind 4 = .ok (.iload_n 1, 1) := by decide +kernel
theorem d_ca_setKind_5 : decode c_ca_setKind 5 = .ok (.iload_n 2, 1) := by decide +kernel
theorem d_ca_setKind_6 : decode c_ca_setKind 6 = .ok (.iastore, 1) := by decide +kernel
theorem d_ca_setKind_7 : decode c_ca_setKind 7 = .ok (.aload_n 0, 1) := by decide +kernel
theorem d_ca_setKind_8 : decode c_ca_setKind 8 = .ok (.getfield 15, 3) := by decide +kernel
theorem d_ca_setKind_11 : decode c_ca_setKind 11 = .ok (.iload_n 1, 1) := by decide +kernel
theorem d_ca_setKind_12 : decode c_ca_setKind 12 = .ok (.iload_n 3, 1) := by decide +kernel
theorem d_ca_setKind_13 : decode c_ca_setKind 13 = .ok (.iastore, 1) := by decide +kernel
theorem d_ca_setKind_14 : decode c_ca_setKind 14 = .ok (.aload_n 0, 1) := by decide +kernel
theorem d_ca_setKind_15 : decode c_ca_setKind 15 = .ok (.getfield 18, 3) := by decide +kernel
theorem d_ca_setKind_18 : decode c_ca_setKind 18 = .ok (.iload_n 1, 1) := by decide +kernel
theorem d_ca_setKind_19 : decode c_ca_setKind 19 = .ok (.iload 4, 2) := by decide +kernel
theorem d_ca_setKind_21 : decode c_ca_setKind 21 = .ok (.iastore, 1) := by decide +kernel
theorem d_ca_setKind_22 : decode c_ca_setKind 22 = .ok (.aload_n 0, 1) := by decide +kernel
theorem d_ca_setKind_23 : decode c_ca_setKind 23 = .ok (.getfield 21, 3) := by decide +kernel
theorem d_ca_setKind_26 : decode c_ca_setKind 26 = .ok (.iload_n 1, 1) := by decide +kernel
theorem d_ca_setKind_27 : decode c_ca_setKind 27 = .ok (.iload 5, 2) := by decide +kernel
theorem d_ca_setKind_29 : decode c_ca_setKind 29 = .ok (.iastore, 1) := by decide +kernel
theorem d_ca_setKind_30 : decode c_ca_setKind 30 = .ok (.aload_n 0, 1) := by decide +kernel
theorem d_ca_setKind_31 : decode c_ca_setKind 31 = .ok (.getfield 24, 3) := by decide +kernel
theorem d_ca_setKind_34 : decode c_ca_setKind 34 = .ok (.iload_n 1, 1) := by decide +kernel
theorem d_ca_setKind_35 : decode c_ca_setKind 35 = .ok (.iload 6, 2) := by decide +kernel
theorem d_ca_setKind_37 : decode c_ca_setKind 37 = .ok (.iastore, 1) := by decide +kernel
theorem d_ca_setKind_38 : decode c_ca_setKind 38 = .ok (.aload_n 0, 1) := by decide +kernel
theorem d_ca_setKind_39 : decode c_ca_setKind 39 = .ok (.getfield 27, 3) := by decide +kernel
theorem d_ca_setKind_42 : decode c_ca_setKind 42 = .ok (.iload_n 1, 1) := by decide +kernel
theorem d_ca_setKind_43 : decode c_ca_setKind 43 = .ok (.iload 7, 2) := by decide +kernel
theorem d_ca_setKind_45 : decode c_ca_setKind 45 = .ok (.iastore, 1) := by decide +kernel
theorem d_ca_setKind_46 : decode c_ca_setKind 46 = .ok (.return_, 1) := by decide +kernel
theorem d_b_kind_0 : decode c_b_kind 0 = .ok (.aload_n 0, 1) := by decide +kernel
theorem d_b_kind_1 : decode c_b_kind 1 = .ok (.invokevirtual 55, 3) := by decide +kernel
theorem d_b_kind_4 : decode c_b_kind 4 = .ok (.aload_n 0, 1) := by decide +kernel
theorem d_b_kind_5 : decode c_b_kind 5 = .ok (.invokevirtual 74, 3) := by decide +kernel
theorem d_b_kind_8 : decode c_b_kind 8 = .ok (.iload_n 1, 1) := by decide +kernel
theorem d_b_kind_9 : decode c_b_kind 9 = .ok (.bipush 40, 2) := by decide +kernel
theorem d_b_kind_11 : decode c_b_kind 11 = .ok (.invokestatic 58, 3) := by decide +kernel
theorem d_b_kind_14 : decode c_b_kind 14 = .ok (.invokestatic 62, 3) := by decide +kernel
theorem d_b_kind_17 : decode c_b_kind 17 = .ok (.iload_n 2, 1) := by decide +kernel
theorem d_b_kind_18 : decode c_b_kind 18 = .ok (.iconst 1, 1) := by decide +kernel
theorem d_b_kind_19 : decode c_b_kind 19 = .ok (.ldc 77, 2) := by decide +kernel
theorem d_b_kind_21 : decode c_b_kind 21 = .ok (.invokestatic 66, 3) := by decide +kernel
theorem d_b_kind_24 : decode c_b_kind 24 = .ok (.invokestatic 62, 3) := by decide +kernel
theorem d_b_kind_27 : decode c_b_kind 27 = .ok (.iload_n 3, 1) := by decide +kernel
theorem d_b_kind_28 : decode c_b_kind 28 = .ok (.iconst 1, 1) := by decide +kernel
theorem d_b_kind_29 : decode c_b_kind 29 = .ok (.sipush 500, 3) := by decide +kernel
theorem d_b_kind_32 : decode c_b_kind 32 = .ok (.invokestatic 66, 3) := by decide +kernel
theorem d_b_kind_35 : decode c_b_kind 35 = .ok (.invokestatic 62, 3) := by decide +kernel
theorem d_b_kind_38 : decode c_b_kind 38 = .ok (.iload 4, 2) := by decide +kernel
theorem d_b_kind_40 : decode c_b_kind 40 = .ok (.iconst 3, 1) := by decide +kernel
theorem d_b_kind_41 : decode c_b_kind 41 = .ok (.invokestatic 58, 3) := by decide +kernel
theorem d_b_kind_44 : decode c_b_kind 44 = .ok (.invokestatic 62, 3) := by decide +kernel
theorem d_b_kind_47 : decode c_b_kind 47 = .ok (.iload 6, 2) := by decide +kernel
theorem d_b_kind_49 : decode c_b_kind 49 = .ok (.iconst 0, 1) := by decide +kernel
theorem d_b_kind_50 : decode c_b_kind 50 = .ok (.sipush 5000, 3) := by decide +kernel
theorem d_b_kind_53 : decode c_b_kind 53 = .ok (.invokestatic 66, 3) := by decide +kernel
theorem d_b_kind_56 : decode c_b_kind 56 = .ok (.invokestatic 62, 3) := by decide +kernel
theorem d_b_kind_59 : decode c_b_kind 59 = .ok (.iload 5, 2) := by decide +kernel
theorem d_b_kind_61 : decode c_b_kind 61 = .ok (.iconst 0, 1) := by decide +kernel
theorem d_b_kind_62 : decode c_b_kind 62 = .ok (.iload 6, 2) := by decide +kernel
theorem d_b_kind_64 : decode c_b_kind 64 = .ok (.invokestatic 66, 3) := by decide +kernel
theorem d_b_kind_67 : decode c_b_kind 67 = .ok (.invokestatic 62, 3) := by decide +kernel
theorem d_b_kind_70 : decode c_b_kind 70 = .ok (.iload 7, 2) := by decide +kernel
theorem d_b_kind_72 : decode c_b_kind 72 = .ok (.bipush 8, 2) := by decide +kernel
theorem d_b_kind_74 : decode c_b_kind 74 = .ok (.invokestatic 58, 3) := by decide +kernel
theorem d_b_kind_77 : decode c_b_kind 77 = .ok (.invokestatic 62, 3) := by decide +kernel
theorem d_b_kind_80 : decode c_b_kind 80 = .ok (.aload_n 0, 1) := by decide +kernel
theorem d_b_kind_81 : decode c_b_kind 81 = .ok (.getfield 12, 3) := by decide +kernel
theorem d_b_kind_84 : decode c_b_kind 84 = .ok (.iload_n 2, 1) := by decide +kernel
theorem d_b_kind_85 : decode c_b_kind 85 = .ok (.invokevirtual 78, 3) := by decide +kernel
theorem d_b_kind_88 : decode c_b_kind 88 = .ok (.istore 8, 2) := by decide +kernel
theorem d_b_kind_90 : decode c_b_kind 90 = .ok (.aload_n 0, 1) := by decide +kernel
theorem d_b_kind_91 : decode c_b_kind 91 = .ok (.getfield 12, 3) := by decide +kernel
theorem d_b_kind_94 : decode c_b_kind 94 = .ok (.iload 8, 2) := by decide +kernel
theorem d_b_kind_96 : decode c_b_kind 96 = .ok (.invokevirtual 82, 3) := by decide +kernel
theorem d_b_kind_99 : decode c_b_kind 99 = .ok (.aload_n 0, 1) := by decide +kernel
theorem d_b_kind_100 : decode c_b_kind 100 = .ok (.getfield 12, 3) := by decide +kernel
theorem d_b_kind_103 : decode c_b_kind 103 = .ok (.iload_n 1, 1) := by decide +kernel
theorem d_b_kind_104 : decode c_b_kind 104 = .ok (.iload_n 2, 1) := by decide +kernel
theorem d_b_kind_105 : decode c_b_kind 105 = .ok (.iload_n 3, 1) := by decide +kernel
theorem d_b_kind_106 : decode c_b_kind 106 = .ok (.iload 4, 2) := by decide +kernel
theorem d_b_kind_108 : decode c_b_kind 108 = .ok (.iload 5, 2) := by decide +kernel
theorem d_b_kind_110 : decode c_b_kind 110 = .ok (.iload 6, 2) := by decide +kernel
theorem d_b_kind_112 : decode c_b_kind 112 = .ok (.iload 7, 2) := by decide +kernel
theorem d_b_kind_114 : decode c_b_kind 114 = .ok (.invokevirtual 86, 3) := by decide +kernel
theorem d_b_kind_117 : decode c_b_kind 117 = .ok (.iload 8, 2) := by decide +kernel
theorem d_b_kind_119 : decode c_b_kind 119 = .ok (.ireturn, 1) := by decide +kernel
theorem d_co_rear_0 : decode c_co_rear 0 = .ok (.aload_n 0, 1) := by decide +kernel
theorem d_co_rear_1 : decode c_co_rear 1 = .ok (.getfield 30, 3) := by decide +kernel
theorem d_co_rear_4 : decode c_co_rear 4 = .ok (.aload_n 0, 1) := by decide +kernel
theorem d_co_rear_5 : decode c_co_rear 5 = .ok (.getfield 27, 3) := by decide +kernel
theorem d_co_rear_8 : decode c_co_rear 8 = .ok (.isub, 1) := by decide +kernel
theorem d_co_rear_9 : decode c_co_rear 9 = .ok (.ireturn, 1) := by decide +kernel
theorem d_co_forget_0 : decode c_co_forget 0 = .ok (.aload_n 0, 1) := by decide +kernel
theorem d_co_forget_1 : decode c_co_forget 1 = .ok (.getfield 14, 3) := by decide +kernel
theorem d_co_forget_4 : decode c_co_forget 4 = .ok (.iconst 0, 1) := by decide +kernel
theorem d_co_forget_5 : decode c_co_forget 5 = .ok (.putfield 40, 3) := by decide +kernel
theorem d_co_forget_8 : decode c_co_forget 8 = .ok (.aload_n 0, 1) := by decide +kernel
theorem d_co_forget_9 : decode c_co_forget 9 = .ok (.getfield 20, 3) := by decide +kernel
theorem d_co_forget_12 : decode c_co_forget 12 = .ok (.iconst 0, 1) := by decide +kernel
theorem d_co_forget_13 : decode c_co_forget 13 = .ok (.putfield 40, 3) := by decide +kernel
theorem d_co_forget_16 : decode c_co_forget 16 = .ok (.aload_n 0, 1) := by decide +kernel
theorem d_co_forget_17 : decode c_co_forget 17 = .ok (.iconst (-1), 1) := by decide +kernel
theorem d_co_forget_18 : decode c_co_forget 18 = .ok (.putfield 43, 3) := by decide +kernel
theorem d_co_forget_21 : decode c_co_forget 21 = .ok (.aload_n 0, 1) := by decide +kernel
theorem d_co_forget_22 : decode c_co_forget 22 = .ok (.iconst 0, 1) := by decide +kernel
theorem d_co_forget_23 : decode c_co_forget 23 = .ok (.putfield 46, 3) := by decide +kernel
theorem d_co_forget_26 : decode c_co_forget 26 = .ok (.aload_n 0, 1) := by decide +kernel
theorem d_co_forget_27 : decode c_co_forget 27 = .ok (.iconst (-1), 1) := by decide +kernel
theorem d_co_forget_28 : decode c_co_forget 28 = .ok (.putfield 49, 3) := by decide +kernel
theorem d_co_forget_31 : decode c_co_forget 31 = .ok (.return_, 1) := by decide +kernel
theorem d_co_begin_0 : decode c_co_begin 0 = .ok (.aload_n 0, 1) := by decide +kernel
theorem d_co_begin_1 : decode c_co_begin 1 = .ok (.iload_n 1, 1) := by decide +kernel
theorem d_co_begin_2 : decode c_co_begin 2 = .ok (.putfield 23, 3) := by decide +kernel
theorem d_co_begin_5 : decode c_co_begin 5 = .ok (.aload_n 0, 1) := by decide +kernel
theorem d_co_begin_6 : decode c_co_begin 6 = .ok (.iload_n 2, 1) := by decide +kernel
theorem d_co_begin_7 : decode c_co_begin 7 = .ok (.putfield 27, 3) := by decide +kernel
theorem d_co_begin_10 : decode c_co_begin 10 = .ok (.aload_n 0, 1) := by decide +kernel
theorem d_co_begin_11 : decode c_co_begin 11 = .ok (.iconst 0, 1) := by decide +kernel
theorem d_co_begin_12 : decode c_co_begin 12 = .ok (.putfield 30, 3) := by decide +kernel
theorem d_co_begin_15 : decode c_co_begin 15 = .ok (.aload_n 0, 1) := by decide +kernel
theorem d_co_begin_16 : decode c_co_begin 16 = .ok (.iconst 0, 1) := by decide +kernel
theorem d_co_begin_17 : decode c_co_begin 17 = .ok (.putfield 33, 3) := by decide +kernel
theorem d_co_begin_20 : decode c_co_begin 20 = .ok (.aload_n 0, 1) := by decide +kernel
theorem d_co_begin_21 : decode c_co_begin 21 = .ok (.invokevirtual 37, 3) := by decide +kernel
theorem d_co_begin_24 : decode c_co_begin 24 = .ok (.return_, 1) := by decide +kernel
theorem d_be_putIn_0 : decode c_be_putIn 0 = .ok (.aload_n 0, 1) := by decide +kernel
theorem d_be_putIn_1 : decode c_be_putIn 1 = .ok (.getfield 18, 3) := by decide +kernel
theorem d_be_putIn_4 : decode c_be_putIn 4 = .ok (.aload_n 0, 1) := by decide +kernel
theorem d_be_putIn_5 : decode c_be_putIn 5 = .ok (.getfield 11, 3) := by decide +kernel
theorem d_be_putIn_8 : decode c_be_putIn 8 = .ok (.arraylength, 1) := by decide +kernel
theorem d_be_putIn_9 : decode c_be_putIn 9 = .ok (.if_icmp .lt 5, 3) := by decide +kernel
theorem d_be_putIn_12 : decode c_be_putIn 12 = .ok (.iconst 0, 1) := by decide +kernel
theorem d_be_putIn_13 : decode c_be_putIn 13 = .ok (.ireturn, 1) := by decide +kernel
theorem d_be_putIn_14 : decode c_be_putIn 14 = .ok (.aload_n 0, 1) := by decide +kernel
theorem d_be_putIn_15 : decode c_be_putIn 15 = .ok (.getfield 18, 3) := by decide +kernel
theorem d_be_putIn_18 : decode c_be_putIn 18 = .ok (.ifCond .le 23, 3) := by decide +kernel
theorem d_be_putIn_21 : decode c_be_putIn 21 = .ok (.aload_n 0, 1) := by decide +kernel
theorem d_be_putIn_22 : decode c_be_putIn 22 = .ok (.getfield 11, 3) := by decide +kernel
theorem d_be_putIn_25 : decode c_be_putIn 25 = .ok (.aload_n 0, 1) := by decide +kernel
theorem d_be_putIn_26 : decode c_be_putIn 26 = .ok (.getfield 18, 3) := by decide +kernel
theorem d_be_putIn_29 : decode c_be_putIn 29 = .ok (.iconst 1, 1) := by decide +kernel
theorem d_be_putIn_30 : decode c_be_putIn 30 = .ok (.isub, 1) := by decide +kernel
theorem d_be_putIn_31 : decode c_be_putIn 31 = .ok (.aaload, 1) := by decide +kernel
theorem d_be_putIn_32 : decode c_be_putIn 32 = .ok (.invokevirtual 22, 3) := by decide +kernel
theorem d_be_putIn_35 : decode c_be_putIn 35 = .ok (.iconst 4, 1) := by decide +kernel
theorem d_be_putIn_36 : decode c_be_putIn 36 = .ok (.if_icmp .ge 5, 3) := by decide +kernel
theorem d_be_putIn_39 : decode c_be_putIn 39 = .ok (.iconst 0, 1) := by decide +kernel
theorem d_be_putIn_40 : decode c_be_putIn 40 = .ok (.ireturn, 1) := by decide +kernel
theorem d_be_putIn_41 : decode c_be_putIn 41 = .ok (.aload_n 0, 1) := by decide +kernel
theorem d_be_putIn_42 : decode c_be_putIn 42 = .ok (.dup, 1) := by decide +kernel
theorem d_be_putIn_43 : decode c_be_putIn 43 = .ok (.getfield 26, 3) := by decide +kernel
theorem d_be_putIn_46 : decode c_be_putIn 46 = .ok (.iconst 1, 1) := by decide +kernel
theorem d_be_putIn_47 : decode c_be_putIn 47 = .ok (.iadd, 1) := by decide +kernel
theorem d_be_putIn_48 : decode c_be_putIn 48 = .ok (.putfield 26, 3) := by decide +kernel
theorem d_be_putIn_51 : decode c_be_putIn 51 = .ok (.aload_n 0, 1) := by decide +kernel
theorem d_be_putIn_52 : decode c_be_putIn 52 = .ok (.getfield 11, 3) := by decide +kernel
theorem d_be_putIn_55 : decode c_be_putIn 55 = .ok (.aload_n 0, 1) := by decide +kernel
theorem d_be_putIn_56 : decode c_be_putIn 56 = .ok (.getfield 18, 3) := by decide +kernel
theorem d_be_putIn_59 : decode c_be_putIn 59 = .ok (.aaload, 1) := by decide +kernel
theorem d_be_putIn_60 : decode c_be_putIn 60 = .ok (.aload_n 0, 1) := by decide +kernel
theorem d_be_putIn_61 : decode c_be_putIn 61 = .ok (.getfield 26, 3) := by decide +kernel
theorem d_be_putIn_64 : decode c_be_putIn 64 = .ok (.iload_n 1, 1) := by decide +kernel
theorem d_be_putIn_65 : decode c_be_putIn 65 = .ok (.invokevirtual 29, 3) := by decide +kernel
theorem d_be_putIn_68 : decode c_be_putIn 68 = .ok (.aload_n 0, 1) := by decide +kernel
theorem d_be_putIn_69 : decode c_be_putIn 69 = .ok (.dup, 1) := by decide +kernel
theorem d_be_putIn_70 : decode c_be_putIn 70 = .ok (.getfield 18, 3) := by decide +kernel
theorem d_be_putIn_73 : decode c_be_putIn 73 = .ok (.iconst 1, 1) := by decide +kernel
theorem d_be_putIn_74 : decode c_be_putIn 74 = .ok (.iadd, 1) := by decide +kernel
theorem d_be_putIn_75 : decode c_be_putIn 75 = .ok (.putfield 18, 3) := by decide +kernel
theorem d_be_putIn_78 : decode c_be_putIn 78 = .ok (.aload_n 0, 1) := by decide +kernel
theorem d_be_putIn_79 : decode c_be_putIn 79 = .ok (.getfield 26, 3) := by decide +kernel
theorem d_be_putIn_82 : decode c_be_putIn 82 = .ok (.ireturn, 1) := by decide +kernel
theorem d_b_enter_0 : decode c_b_enter 0 = .ok (.aload_n 0, 1) := by decide +kernel
theorem d_b_enter_1 : decode c_b_enter 1 = .ok (.invokevirtual 55, 3) := by decide +kernel
theorem d_b_enter_4 : decode c_b_enter 4 = .ok (.iload_n 1, 1) := by decide +kernel
theorem d_b_enter_5 : decode c_b_enter 5 = .ok (.iconst 5, 1) := by decide +kernel
theorem d_b_enter_6 : decode c_b_enter 6 = .ok (.bipush 40, 2) := by decide +kernel
theorem d_b_enter_8 : decode c_b_enter 8 = .ok (.invokestatic 66, 3) := by decide +kernel
theorem d_b_enter_11 : decode c_b_enter 11 = .ok (.invokestatic 62, 3) := by decide +kernel
theorem d_b_enter_14 : decode c_b_enter 14 = .ok (.aload_n 0, 1) := by decide +kernel
theorem d_b_enter_15 : decode c_b_enter 15 = .ok (.getfield 19, 3) := by decide +kernel
theorem d_b_enter_18 : decode c_b_enter 18 = .ok (.iload_n 1, 1) := by decide +kernel
theorem d_b_enter_19 : decode c_b_enter 19 = .ok (.invokevirtual 90, 3) := by decide +kernel
theorem d_b_enter_22 : decode c_b_enter 22 = .ok (.ireturn, 1) := by decide +kernel
theorem d_co_isOver_0 : decode c_co_isOver 0 = .ok (.aload_n 0, 1) := by decide +kernel
theorem d_co_isOver_1 : decode c_co_isOver 1 = .ok (.invokevirtual 52, 3) := by decide +kernel
theorem d_co_isOver_4 : decode c_co_isOver 4 = .ok (.iload_n 1, 1) := by decide +kernel
theorem d_co_isOver_5 : decode c_co_isOver 5 = .ok (.if_icmp .ge 15, 3) := by decide +kernel
theorem d_co_isOver_8 : decode c_co_isOver 8 = .ok (.aload_n 0, 1) := by decide +kernel
theorem d_co_isOver_9 : decode c_co_isOver 9 = .ok (.getfield 30, 3) := by decide +kernel
theorem d_co_isOver_12 : decode c_co_isOver 12 = .ok (.iload_n 1, 1) := by decide +kernel
theorem d_co_isOver_13 : decode c_co_isOver 13 = .ok (.if_icmp .lt 7, 3) := by decide +kernel
theorem d_co_isOver_16 : decode c_co_isOver 16 = .ok (.iconst 1, 1) := by decide +kernel
theorem d_co_isOver_17 : decode c_co_isOver 17 = .ok (.goto 4, 3) := by decide +kernel
theorem d_co_isOver_20 : decode c_co_isOver 20 = .ok (.iconst 0, 1) := by decide +kernel
theorem d_co_isOver_21 : decode c_co_isOver 21 = .ok (.ireturn, 1) := by decide +kernel
theorem d_be_over_0 : decode c_be_over 0 = .ok (.iconst 0, 1) := by decide +kernel
theorem d_be_over_1 : decode c_be_over 1 = .ok (.istore_n 2, 1) := by decide +kernel
theorem d_be_over_2 : decode c_be_over 2 = .ok (.iload_n 2, 1) := by decide +kernel
theorem d_be_over_3 : decode c_be_over 3 = .ok (.aload_n 0, 1) := by decide +kernel
theorem d_be_over_4 : decode c_be_over 4 = .ok (.getfield 18, 3) := by decide +kernel
theorem d_be_over_7 : decode c_be_over 7 = .ok (.if_icmp .ge 29, 3) := by decide +kernel
theorem d_be_over_10 : decode c_be_over 10 = .ok (.aload_n 0, 1) := by decide +kernel
theorem d_be_over_11 : decode c_be_over 11 = .ok (.getfield 11, 3) := by decide +kernel
theorem d_be_over_14 : decode c_be_over 14 = .ok (.iload_n 2, 1) := by decide +kernel
theorem d_be_over_15 : decode c_be_over 15 = .ok (.aaload, 1) := by decide +kernel
theorem d_be_over_16 : decode c_be_over 16 = .ok (.iload_n 1, 1) := by decide +kernel
theorem d_be_over_17 : decode c_be_over 17 = .ok (.invokevirtual 33, 3) := by decide +kernel
theorem d_be_over_20 : decode c_be_over 20 = .ok (.ifCond .eq 10, 3) := by decide +kernel
theorem d_be_over_23 : decode c_be_over 23 = .ok (.aload_n 0, 1) := by decide +kernel
theorem d_be_over_24 : decode c_be_over 24 = .ok (.getfield 11, 3) := by decide +kernel
theorem d_be_over_27 : decode c_be_over 27 = .ok (.iload_n 2, 1) := by decide +kernel
theorem d_be_over_28 : decode c_be_over 28 = .ok (.aaload, 1) := by decide +kernel
theorem d_be_over_29 : decode c_be_over 29 = .ok (.areturn, 1) := by decide +kernel
theorem d_be_over_30 : decode c_be_over 30 = .ok (.iinc 2 1, 3) := by decide +kernel
theorem d_be_over_33 : decode c_be_over 33 = .ok (.goto (-31), 3) := by decide +kernel
theorem d_be_over_36 : decode c_be_over 36 = .ok (.aconst_null, 1) := by decide +kernel
theorem d_be_over_37 : decode c_be_over 37 = .ok (.areturn, 1) := by decide +kernel
theorem d_ro_isFull_0 : decode c_ro_isFull 0 = .ok (.aload_n 0, 1) := by decide +kernel
theorem d_ro_isFull_1 : decode c_ro_isFull 1 = .ok (.getfield 13, 3) := by decide +kernel
theorem d_ro_isFull_4 : decode c_ro_isFull 4 = .ok (.aload_n 0, 1) := by decide +kernel
theorem d_ro_isFull_5 : decode c_ro_isFull 5 = .ok (.getfield 7, 3) := by decide +kernel
theorem d_ro_isFull_8 : decode c_ro_isFull 8 = .ok (.arraylength, 1) := by decide +kernel
theorem d_ro_isFull_9 : decode c_ro_isFull 9 = .ok (.if_icmp .lt 7, 3) := by decide +kernel
theorem d_ro_isFull_12 : decode c_ro_isFull 12 = .ok (.iconst 1, 1) := by decide +kernel
theorem d_ro_isFull_13 : decode c_ro_isFull 13 = .ok (.goto 4, 3) := by decide +kernel
theorem d_ro_isFull_16 : decode c_ro_isFull 16 = .ok (.iconst 0, 1) := by decide +kernel
theorem d_ro_isFull_17 : decode c_ro_isFull 17 = .ok (.ireturn, 1) := by decide +kernel
theorem d_ro_take_0 : decode c_ro_take 0 = .ok (.aload_n 0, 1) := by decide +kernel
theorem d_ro_take_1 : decode c_ro_take 1 = .ok (.invokevirtual 17, 3) := by decide +kernel
theorem d_ro_take_4 : decode c_ro_take 4 = .ok (.ifCond .eq 5, 3) := by decide +kernel
theorem d_ro_take_7 : decode c_ro_take 7 = .ok (.iconst 0, 1) := by decide +kernel
theorem d_ro_take_8 : decode c_ro_take 8 = .ok (.ireturn, 1) := by decide +kernel
theorem d_ro_take_9 : decode c_ro_take 9 = .ok (.aload_n 0, 1) := by decide +kernel
theorem d_ro_take_10 : decode c_ro_take 10 = .ok (.getfield 7, 3) := by decide +kernel
theorem d_ro_take_13 : decode c_ro_take 13 = .ok (.aload_n 0, 1) := by decide +kernel
theorem d_ro_take_14 : decode c_ro_take 14 = .ok (.getfield 13, 3) := by decide +kernel
theorem d_ro_take_17 : decode c_ro_take 17 = .ok (.iload_n 1, 1) := by decide +kernel
theorem d_ro_take_18 : decode c_ro_take 18 = .ok (.iastore, 1) := by decide +kernel
theorem d_ro_take_19 : decode c_ro_take 19 = .ok (.aload_n 0, 1) := by decide +kernel
theorem d_ro_take_20 : decode c_ro_take 20 = .ok (.dup, 1) := by decide +kernel
theorem d_ro_take_21 : decode c_ro_take 21 = .ok (.getfield 13, 3) := by decide +kernel
theorem d_ro_take_24 : decode c_ro_take 24 = .ok (.iconst 1, 1) := by decide +kernel
theorem d_ro_take_25 : decode c_ro_take 25 = .ok (.iadd, 1) := by decide +kernel
theorem d_ro_take_26 : decode c_ro_take 26 = .ok (.putfield 13, 3) := by decide +kernel
theorem d_ro_take_29 : decode c_ro_take 29 = .ok (.iconst 1, 1) := by decide +kernel
theorem d_ro_take_30 : decode c_ro_take 30 = .ok (.ireturn, 1) := by decide +kernel
theorem d_b_code_0 : decode c_b_code 0 = .ok (.aload_n 0, 1) := by decide +kernel
theorem d_b_code_1 : decode c_b_code 1 = .ok (.invokevirtual 55, 3) := by decide +kernel
theorem d_b_code_4 : decode c_b_code 4 = .ok (.iload_n 1, 1) := by decide +kernel
theorem d_b_code_5 : decode c_b_code 5 = .ok (.iconst 1, 1) := by decide +kernel
theorem d_b_code_6 : decode c_b_code 6 = .ok (.ldc 77, 2) := by decide +kernel
theorem d_b_code_8 : decode c_b_code 8 = .ok (.invokestatic 66, 3) := by decide +kernel
theorem d_b_code_11 : decode c_b_code 11 = .ok (.invokestatic 62, 3) := by decide +kernel
theorem d_b_code_14 : decode c_b_code 14 = .ok (.aload_n 0, 1) := by decide +kernel
theorem d_b_code_15 : decode c_b_code 15 = .ok (.getfield 19, 3) := by decide +kernel
theorem d_b_code_18 : decode c_b_code 18 = .ok (.bipush 15, 2) := by decide +kernel
theorem d_b_code_20 : decode c_b_code 20 = .ok (.invokevirtual 93, 3) := by decide +kernel
theorem d_b_code_23 : decode c_b_code 23 = .ok (.astore_n 2, 1) := by decide +kernel
theorem d_b_code_24 : decode c_b_code 24 = .ok (.aload_n 2, 1) := by decide +kernel
theorem d_b_code_25 : decode c_b_code 25 = .ok (.ifnull 18, 3) := by decide +kernel
theorem d_b_code_28 : decode c_b_code 28 = .ok (.aload_n 2, 1) := by decide +kernel
theorem d_b_code_29 : decode c_b_code 29 = .ok (.getfield 97, 3) := by decide +kernel
theorem d_b_code_32 : decode c_b_code 32 = .ok (.iload_n 1, 1) := by decide +kernel
theorem d_b_code_33 : decode c_b_code 33 = .ok (.invokevirtual 103, 3) := by decide +kernel
theorem d_b_code_36 : decode c_b_code 36 = .ok (.ifCond .eq 7, 3) := by decide +kernel
theorem d_b_code_39 : decode c_b_code 39 = .ok (.iconst 1, 1) := by decide +kernel
theorem d_b_code_40 : decode c_b_code 40 = .ok (.goto 4, 3) := by decide +kernel
theorem d_b_code_43 : decode c_b_code 43 = .ok (.iconst 0, 1) := by decide +kernel
theorem d_b_code_44 : decode c_b_code 44 = .ok (.ireturn, 1) := by decide +kernel
theorem d_b_width_0 : decode c_b_width 0 = .ok (.aload_n 0, 1) := by decide +kernel
theorem d_b_width_1 : decode c_b_width 1 = .ok (.invokevirtual 55, 3) := by decide +kernel
theorem d_b_width_4 : decode c_b_width 4 = .ok (.iload_n 1, 1) := by decide +kernel
theorem d_b_width_5 : decode c_b_width 5 = .ok (.iconst 0, 1) := by decide +kernel
theorem d_b_width_6 : decode c_b_width 6 = .ok (.sipush 255, 3) := by decide +kernel
theorem d_b_width_9 : decode c_b_width 9 = .ok (.invokestatic 66, 3) := by decide +kernel
theorem d_b_width_12 : decode c_b_width 12 = .ok (.invokestatic 62, 3) := by decide +kernel
theorem d_b_width_15 : decode c_b_width 15 = .ok (.aload_n 0, 1) := by decide +kernel
theorem d_b_width_16 : decode c_b_width 16 = .ok (.getfield 19, 3) := by decide +kernel
theorem d_b_width_19 : decode c_b_width 19 = .ok (.bipush 30, 2) := by decide +kernel
theorem d_b_width_21 : decode c_b_width 21 = .ok (.invokevirtual 93, 3) := by decide +kernel
theorem d_b_width_24 : decode c_b_width 24 = .ok (.astore_n 2, 1) := by decide +kernel
theorem d_b_width_25 : decode c_b_width 25 = .ok (.aload_n 2, 1) := by decide +kernel
theorem d_b_width_26 : decode c_b_width 26 = .ok (.ifnull 18, 3) := by decide +kernel
theorem d_b_width_29 : decode c_b_width 29 = .ok (.aload_n 2, 1) := by decide +kernel
theorem d_b_width_30 : decode c_b_width 30 = .ok (.getfield 109, 3) := by decide +kernel
theorem d_b_width_33 : decode c_b_width 33 = .ok (.iload_n 1, 1) := by decide +kernel
theorem d_b_width_34 : decode c_b_width 34 = .ok (.invokevirtual 103, 3) := by decide +kernel
theorem d_b_width_37 : decode c_b_width 37 = .ok (.ifCond .eq 7, 3) := by decide +kernel
theorem d_b_width_40 : decode c_b_width 40 = .ok (.iconst 1, 1) := by decide +kernel
theorem d_b_width_41 : decode c_b_width 41 = .ok (.goto 4, 3) := by decide +kernel
theorem d_b_width_44 : decode c_b_width 44 = .ok (.iconst 0, 1) := by decide +kernel
theorem d_b_width_45 : decode c_b_width 45 = .ok (.ireturn, 1) := by decide +kernel
theorem d_b_weigh_0 : decode c_b_weigh 0 = .ok (.aload_n 0, 1) := by decide +kernel
theorem d_b_weigh_1 : decode c_b_weigh 1 = .ok (.invokevirtual 55, 3) := by decide +kernel
theorem d_b_weigh_4 : decode c_b_weigh 4 = .ok (.iload_n 1, 1) := by decide +kernel
theorem d_b_weigh_5 : decode c_b_weigh 5 = .ok (.iconst 0, 1) := by decide +kernel
theorem d_b_weigh_6 : decode c_b_weigh 6 = .ok (.sipush 5000, 3) := by decide +kernel
theorem d_b_weigh_9 : decode c_b_weigh 9 = .ok (.invokestatic 66, 3) := by decide +kernel
theorem d_b_weigh_12 : decode c_b_weigh 12 = .ok (.invokestatic 62, 3) := by decide +kernel
theorem d_b_weigh_15 : decode c_b_weigh 15 = .ok (.aload_n 0, 1) := by decide +kernel
theorem d_b_weigh_16 : decode c_b_weigh 16 = .ok (.getfield 19, 3) := by decide +kernel
theorem d_b_weigh_19 : decode c_b_weigh 19 = .ok (.bipush 45, 2) := by decide +kernel
theorem d_b_weigh_21 : decode c_b_weigh 21 = .ok (.invokevirtual 93, 3) := by decide +kernel
theorem d_b_weigh_24 : decode c_b_weigh 24 = .ok (.astore_n 2, 1) := by decide +kernel
theorem d_b_weigh_25 : decode c_b_weigh 25 = .ok (.aload_n 2, 1) := by decide +kernel
theorem d_b_weigh_26 : decode c_b_weigh 26 = .ok (.ifnonnull 5, 3) := by decide +kernel
theorem d_b_weigh_29 : decode c_b_weigh 29 = .ok (.iconst 0, 1) := by decide +kernel
theorem d_b_weigh_30 : decode c_b_weigh 30 = .ok (.ireturn, 1) := by decide +kernel
theorem d_b_weigh_31 : decode c_b_weigh 31 = .ok (.aload_n 2, 1) := by decide +kernel
theorem d_b_weigh_32 : decode c_b_weigh 32 = .ok (.iload_n 1, 1) := by decide +kernel
theorem d_b_weigh_33 : decode c_b_weigh 33 = .ok (.putfield 112, 3) := by decide +kernel
theorem d_b_weigh_36 : decode c_b_weigh 36 = .ok (.iconst 1, 1) := by decide +kernel
theorem d_b_weigh_37 : decode c_b_weigh 37 = .ok (.ireturn, 1) := by decide +kernel
theorem d_be_isBlocked_0 : decode c_be_isBlocked 0 = .ok (.iconst 0, 1) := by decide +kernel
theorem d_be_isBlocked_1 : decode c_be_isBlocked 1 = .ok (.istore_n 1, 1) := by decide +kernel
theorem d_be_isBlocked_2 : decode c_be_isBlocked 2 = .ok (.iload_n 1, 1) := by decide +kernel
theorem d_be_isBlocked_3 : decode c_be_isBlocked 3 = .ok (.aload_n 0, 1) := by decide +kernel
theorem d_be_isBlocked_4 : decode c_be_isBlocked 4 = .ok (.getfield 18, 3) := by decide +kernel
theorem d_be_isBlocked_7 : decode c_be_isBlocked 7 = .ok (.if_icmp .ge 39, 3) := by decide +kernel
theorem d_be_isBlocked_10 : decode c_be_isBlocked 10 = .ok (.aload_n 0, 1) := by decide +kernel
theorem d_be_isBlocked_11 : decode c_be_isBlocked 11 = .ok (.getfield 11, 3) := by decide +kernel
theorem d_be_isBlocked_14 : decode c_be_isBlocked 14 = .ok (.iload_n 1, 1) := by decide +kernel
theorem d_be_isBlocked_15 : decode c_be_isBlocked 15 = .ok (.aaload, 1) := by decide +kernel
theorem d_be_isBlocked_16 : decode c_be_isBlocked 16 = .ok (.getfield 40, 3) := by decide +kernel
theorem d_be_isBlocked_19 : decode c_be_isBlocked 19 = .ok (.bipush 104, 2) := by decide +kernel
theorem d_be_isBlocked_21 : decode c_be_isBlocked 21 = .ok (.if_icmp .ne 19, 3) := by decide +kernel
theorem d_be_isBlocked_24 : decode c_be_isBlocked 24 = .ok (.aload_n 0, 1) := by decide +kernel
theorem d_be_isBlocked_25 : decode c_be_isBlocked 25 = .ok (.getfield 11, 3) := by decide +kernel
theorem d_be_isBlocked_28 : decode c_be_isBlocked 28 = .ok (.iload_n 1, 1) := by decide +kernel
theorem d_be_isBlocked_29 : decode c_be_isBlocked 29 = .ok (.aaload, 1) := by decide +kernel
theorem d_be_isBlocked_30 : decode c_be_isBlocked 30 = .ok (.getfield 43, 3) := by decide +kernel
theorem d_be_isBlocked_33 : decode c_be_isBlocked 33 = .ok (.bipush 10, 2) := by decide +kernel
theorem d_be_isBlocked_35 : decode c_be_isBlocked 35 = .ok (.if_icmp .eq 5, 3) := by decide +kernel
theorem d_be_isBlocked_38 : decode c_be_isBlocked 38 = .ok (.iconst 1, 1) := by decide +kernel
theorem d_be_isBlocked_39 : decode c_be_isBlocked 39 = .ok (.ireturn, 1) := by decide +kernel
theorem d_be_isBlocked_40 : decode c_be_isBlocked 40 = .ok (.iinc 1 1, 3) := by decide +kernel
theorem d_be_isBlocked_43 : decode c_be_isBlocked 43 = .ok (.goto (-41), 3) := by decide +kernel
theorem d_be_isBlocked_46 : decode c_be_isBlocked 46 = .ok (.iconst 0, 1) := by decide +kernel
theorem d_be_isBlocked_47 : decode c_be_isBlocked 47 = .ok (.ireturn, 1) := by decide +kernel
theorem d_be_moveUp_0 : decode c_be_moveUp 0 = .ok (.iconst 0, 1) := by decide +kernel
theorem d_be_moveUp_1 : decode c_be_moveUp 1 = .ok (.istore_n 1, 1) := by decide +kernel
theorem d_be_moveUp_2 : decode c_be_moveUp 2 = .ok (.iload_n 1, 1) := by decide +kernel
theorem d_be_moveUp_3 : decode c_be_moveUp 3 = .ok (.aload_n 0, 1) := by decide +kernel
theorem d_be_moveUp_4 : decode c_be_moveUp 4 = .ok (.getfield 18, 3) := by decide +kernel
theorem d_be_moveUp_7 : decode c_be_moveUp 7 = .ok (.if_icmp .ge 24, 3) := by decide +kernel
theorem d_be_moveUp_10 : decode c_be_moveUp 10 = .ok (.aload_n 0, 1) := by decide +kernel
theorem d_be_moveUp_11 : decode c_be_moveUp 11 = .ok (.getfield 11, 3) := by decide +kernel
theorem d_be_moveUp_14 : decode c_be_moveUp 14 = .ok (.iload_n 1, 1) := by decide +kernel
theorem d_be_moveUp_15 : decode c_be_moveUp 15 = .ok (.aaload, 1) := by decide +kernel
theorem d_be_moveUp_16 : decode c_be_moveUp 16 = .ok (.dup, 1) := by decide +kernel
theorem d_be_moveUp_17 : decode c_be_moveUp 17 = .ok (.getfield 40, 3) := by decide +kernel
theorem d_be_moveUp_20 : decode c_be_moveUp 20 = .ok (.iconst 1, 1) := by decide +kernel
theorem d_be_moveUp_21 : decode c_be_moveUp 21 = .ok (.iadd, 1) := by decide +kernel
theorem d_be_moveUp_22 : decode c_be_moveUp 22 = .ok (.putfield 40, 3) := by decide +kernel
theorem d_be_moveUp_25 : decode c_be_moveUp 25 = .ok (.iinc 1 1, 3) := by decide +kernel
theorem d_be_moveUp_28 : decode c_be_moveUp 28 = .ok (.goto (-26), 3) := by decide +kernel
theorem d_be_moveUp_31 : decode c_be_moveUp 31 = .ok (.return_, 1) := by decide +kernel
theorem d_ca_kindOf_0 : decode c_ca_kindOf 0 = .ok (.aload_n 1, 1) := by decide +kernel
theorem d_ca_kindOf_1 : decode c_ca_kindOf 1 = .ok (.getfield 38, 3) := by decide +kernel
theorem d_ca_kindOf_4 : decode c_ca_kindOf 4 = .ok (.getfield 43, 3) := by decide +kernel
theorem d_ca_kindOf_7 : decode c_ca_kindOf 7 = .ok (.ifCond .ne 7, 3) := by decide +kernel
theorem d_ca_kindOf_10 : decode c_ca_kindOf 10 = .ok (.iconst (-1), 1) := by decide +kernel
theorem d_ca_kindOf_11 : decode c_ca_kindOf 11 = .ok (.goto 16, 3) := by decide +kernel
theorem d_ca_kindOf_14 : decode c_ca_kindOf 14 = .ok (.aload_n 0, 1) := by decide +kernel
theorem d_ca_kindOf_15 : decode c_ca_kindOf 15 = .ok (.aload_n 1, 1) := by decide +kernel
theorem d_ca_kindOf_16 : decode c_ca_kindOf 16 = .ok (.getfield 38, 3) := by decide +kernel
theorem d_ca_kindOf_19 : decode c_ca_kindOf 19 = .ok (.getfield 49, 3) := by decide +kernel
theorem d_ca_kindOf_22 : decode c_ca_kindOf 22 = .ok (.iconst 0, 1) := by decide +kernel
theorem d_ca_kindOf_23 : decode c_ca_kindOf 23 = .ok (.iaload, 1) := by decide +kernel
theorem d_ca_kindOf_24 : decode c_ca_kindOf 24 = .ok (.invokevirtual 52, 3) := by decide +kernel
theorem d_ca_kindOf_27 : decode c_ca_kindOf 27 = .ok (.ireturn, 1) := by decide +kernel
theorem d_ro_isUniform_0 : decode c_ro_isUniform 0 = .ok (.iconst 1, 1) := by decide +kernel
theorem d_ro_isUniform_1 : decode c_ro_isUniform 1 = .ok (.istore_n 1, 1) := by decide +kernel
theorem d_ro_isUniform_2 : decode c_ro_isUniform 2 = .ok (.iload_n 1, 1) := by decide +kernel
theorem d_ro_isUniform_3 : decode c_ro_isUniform 3 = .ok (.aload_n 0, 1) := by decide +kernel
theorem d_ro_isUniform_4 : decode c_ro_isUniform 4 = .ok (.getfield 13, 3) := by decide +kernel
theorem d_ro_isUniform_7 : decode c_ro_isUniform 7 = .ok (.if_icmp .ge 26, 3) := by decide +kernel
theorem d_ro_isUniform_10 : decode c_ro_isUniform 10 = .ok (.aload_n 0, 1) := by decide +kernel
theorem d_ro_isUniform_11 : decode c_ro_isUniform 11 = .ok (.getfield 7, 3) := by decide +kernel
theorem d_ro_isUniform_14 : decode c_ro_isUniform 14 = .ok (.iload_n 1, 1) := by decide +kernel
theorem d_ro_isUniform_15 : decode c_ro_isUniform 15 = .ok (.iaload, 1) := by decide +kernel
theorem d_ro_isUniform_16 : decode c_ro_isUniform 16 = .ok (.aload_n 0, 1) := by decide +kernel
theorem d_ro_isUniform_17 : decode c_ro_isUniform 17 = .ok (.getfield 7, 3) := by decide +kernel
theorem d_ro_isUniform_20 : decode c_ro_isUniform 20 = .ok (.iconst 0, 1) := by decide +kernel
theorem d_ro_isUniform_21 : decode c_ro_isUniform 21 = .ok (.iaload, 1) := by decide +kernel
theorem d_ro_isUniform_22 : decode c_ro_isUniform 22 = .ok (.if_icmp .eq 5, 3) := by decide +kernel
theorem d_ro_isUniform_25 : decode c_ro_isUniform 25 = .ok (.iconst 0, 1) := by decide +kernel
theorem d_ro_isUniform_26 : decode c_ro_isUniform 26 = .ok (.ireturn, 1) := by decide +kernel
theorem d_ro_isUniform_27 : decode c_ro_isUniform 27 = .ok (.iinc 1 1, 3) := by decide +kernel
theorem d_ro_isUniform_30 : decode c_ro_isUniform 30 = .ok (.goto (-28), 3) := by decide +kernel
theorem d_ro_isUniform_33 : decode c_ro_isUniform 33 = .ok (.iconst 1, 1) := by decide +kernel
theorem d_ro_isUniform_34 : decode c_ro_isUniform 34 = .ok (.ireturn, 1) := by decide +kernel
theorem d_ca_allowsWeight_0 : decode c_ca_allowsWeight 0 = .ok (.iload_n 2, 1) := by decide +kernel
theorem d_ca_allowsWeight_1 : decode c_ca_allowsWeight 1 = .ok (.iconst (-1), 1) := by decide +kernel
theorem d_ca_allowsWeight_2 : decode c_ca_allowsWeight 2 = .ok (.if_icmp .eq 26, 3) := by decide +kernel
theorem d_ca_allowsWeight_5 : decode c_ca_allowsWeight 5 = .ok (.iload_n 2, 1) := by decide +kernel
theorem d_ca_allowsWeight_6 : decode c_ca_allowsWeight 6 = .ok (.aload_n 0, 1) := by decide +kernel
theorem d_ca_allowsWeight_7 : decode c_ca_allowsWeight 7 = .ok (.getfield 21, 3) := by decide +kernel
theorem d_ca_allowsWeight_10 : decode c_ca_allowsWeight 10 = .ok (.iload_n 1, 1) := by decide +kernel
theorem d_ca_allowsWeight_11 : decode c_ca_allowsWeight 11 = .ok (.iaload, 1) := by decide +kernel
theorem d_ca_allowsWeight_12 : decode c_ca_allowsWeight 12 = .ok (.aload_n 0, 1) := by decide +kernel
theorem d_ca_allowsWeight_13 : decode c_ca_allowsWeight 13 = .ok (.getfield 24, 3) := by decide +kernel
theorem d_ca_allowsWeight_16 : decode c_ca_allowsWeight 16 = .ok (.iload_n 1, 1) := by decide +kernel
theorem d_ca_allowsWeight_17 : decode c_ca_allowsWeight 17 = .ok (.iaload, 1) := by decide +kernel
theorem d_ca_allowsWeight_18 : decode c_ca_allowsWeight 18 = .ok (.invokestatic 56, 3) := by decide +kernel
theorem d_ca_allowsWeight_21 : decode c_ca_allowsWeight 21 = .ok (.ifCond .eq 7, 3) := by decide +kernel
theorem d_ca_allowsWeight_24 : decode c_ca_allowsWeight 24 = .ok (.iconst 1, 1) := by decide +kernel
theorem d_ca_allowsWeight_25 : decode c_ca_allowsWeight 25 = .ok (.goto 4, 3) := by decide +kernel
theorem d_ca_allowsWeight_28 : decode c_ca_allowsWeight 28 = .ok (.iconst 0, 1) := by decide +kernel
theorem d_ca_allowsWeight_29 : decode c_ca_allowsWeight 29 = .ok (.ireturn, 1) := by decide +kernel
theorem d_ca_allowsWidths_0 : decode c_ca_allowsWidths 0 = .ok (.aload_n 2, 1) := by decide +kernel
theorem d_ca_allowsWidths_1 : decode c_ca_allowsWidths 1 = .ok (.invokevirtual 60, 3) := by decide +kernel
theorem d_ca_allowsWidths_4 : decode c_ca_allowsWidths 4 = .ok (.ifCond .ne 5, 3) := by decide +kernel
theorem d_ca_allowsWidths_7 : decode c_ca_allowsWidths 7 = .ok (.iconst 0, 1) := by decide +kernel
theorem d_ca_allowsWidths_8 : decode c_ca_allowsWidths 8 = .ok (.ireturn, 1) := by decide +kernel
theorem d_ca_allowsWidths_9 : decode c_ca_allowsWidths 9 = .ok (.aload_n 0, 1) := by decide +kernel
theorem d_ca_allowsWidths_10 : decode c_ca_allowsWidths 10 = .ok (.getfield 27, 3) := by decide +kernel
theorem d_ca_allowsWidths_13 : decode c_ca_allowsWidths 13 = .ok (.iload_n 1, 1) := by decide +kernel
theorem d_ca_allowsWidths_14 : decode c_ca_allowsWidths 14 = .ok (.iaload, 1) := by decide +kernel
theorem d_ca_allowsWidths_15 : decode c_ca_allowsWidths 15 = .ok (.istore_n 3, 1) := by decide +kernel
theorem d_ca_allowsWidths_16 : decode c_ca_allowsWidths 16 = .ok (.iconst 0, 1) := by decide +kernel
theorem d_ca_allowsWidths_17 : decode c_ca_allowsWidths 17 = .ok (.istore 4, 2) := by decide +kernel
theorem d_ca_allowsWidths_19 : decode c_ca_allowsWidths 19 = .ok (.iconst 0, 1) := by decide +kernel
theorem d_ca_allowsWidths_20 : decode c_ca_allowsWidths 20 = .ok (.istore 5, 2) := by decide +kernel
theorem d_ca_allowsWidths_22 : decode c_ca_allowsWidths 22 = .ok (.iload 5, 2) := by decide +kernel
theorem d_ca_allowsWidths_24 : decode c_ca_allowsWidths 24 = .ok (.bipush 8, 2) := by decide +kernel
theorem d_ca_allowsWidths_26 : decode c_ca_allowsWidths 26 = .ok (.if_icmp .ge 34, 3) := by decide +kernel
theorem d_ca_allowsWidths_29 : decode c_ca_allowsWidths 29 = .ok (.iload 4, 2) := by decide +kernel
theorem d_ca_allowsWidths_31 : decode c_ca_allowsWidths 31 = .ok (.aload_n 2, 1) := by decide +kernel
theorem d_ca_allowsWidths_32 : decode c_ca_allowsWidths 32 = .ok (.getfield 49, 3) := by decide +kernel
theorem d_ca_allowsWidths_35 : decode c_ca_allowsWidths 35 = .ok (.iload 5, 2) := by decide +kernel
theorem d_ca_allowsWidths_37 : decode c_ca_allowsWidths 37 = .ok (.iaload, 1) := by decide +kernel
theorem d_ca_allowsWidths_38 : decode c_ca_allowsWidths 38 = .ok (.aload_n 0, 1) := by decide +kernel
theorem d_ca_allowsWidths_39 : decode c_ca_allowsWidths 39 = .ok (.getfield 32, 3) := by decide +kernel
theorem d_ca_allowsWidths_42 : decode c_ca_allowsWidths 42 = .ok (.iload_n 3, 1) := by decide +kernel
theorem d_ca_allowsWidths_43 : decode c_ca_allowsWidths 43 = .ok (.aaload, 1) := by decide +kernel
theorem d_ca_allowsWidths_44 : decode c_ca_allowsWidths 44 = .ok (.iload 5, 2) := by decide +kernel
theorem d_ca_allowsWidths_46 : decode c_ca_allowsWidths 46 = .ok (.iaload, 1) := by decide +kernel
theorem d_ca_allowsWidths_47 : decode c_ca_allowsWidths 47 = .ok (.isub, 1) := by decide +kernel
theorem d_ca_allowsWidths_48 : decode c_ca_allowsWidths 48 = .ok (.invokestatic 64, 3) := by decide +kernel
theorem d_ca_allowsWidths_51 : decode c_ca_allowsWidths 51 = .ok (.iadd, 1) := by decide +kernel
theorem d_ca_allowsWidths_52 : decode c_ca_allowsWidths 52 = .ok (.istore 4, 2) := by decide +kernel
theorem d_ca_allowsWidths_54 : decode c_ca_allowsWidths 54 = .ok (.iinc 5 1, 3) := by decide +kernel
theorem d_ca_allowsWidths_57 : decode c_ca_allowsWidths 57 = .ok (.goto (-35), 3) := by decide +kernel
theorem d_ca_allowsWidths_60 : decode c_ca_allowsWidths 60 = .ok (.iload 4, 2) := by decide +kernel
theorem d_ca_allowsWidths_62 : decode c_ca_allowsWidths 62 = .ok (.aload_n 0, 1) := by decide +kernel
theorem d_ca_allowsWidths_63 : decode c_ca_allowsWidths 63 = .ok (.getfield 35, 3) := by decide +kernel
theorem d_ca_allowsWidths_66 : decode c_ca_allowsWidths 66 = .ok (.iload_n 3, 1) := by decide +kernel
theorem d_ca_allowsWidths_67 : decode c_ca_allowsWidths 67 = .ok (.iaload, 1) := by decide +kernel
theorem d_ca_allowsWidths_68 : decode c_ca_allowsWidths 68 = .ok (.if_icmp .gt 7, 3) := by decide +kernel
theorem d_ca_allowsWidths_71 : decode c_ca_allowsWidths 71 = .ok (.iconst 1, 1) := by decide +kernel
theorem d_ca_allowsWidths_72 : decode c_ca_allowsWidths 72 = .ok (.goto 4, 3) := by decide +kernel
theorem d_ca_allowsWidths_75 : decode c_ca_allowsWidths 75 = .ok (.iconst 0, 1) := by decide +kernel
theorem d_ca_allowsWidths_76 : decode c_ca_allowsWidths 76 = .ok (.ireturn, 1) := by decide +kernel
theorem d_b_judgementByReadings_0 : decode c_b_judgementByReadings 0 = .ok (.aload_n 1, 1) := by decide +kernel
theorem d_b_judgementByReadings_1 : decode c_b_judgementByReadings 1 = .ok (.getfield 97, 3) := by decide +kernel
theorem d_b_judgementByReadings_4 : decode c_b_judgementByReadings 4 = .ok (.getfield 231, 3) := by decide +kernel
theorem d_b_judgementByReadings_7 : decode c_b_judgementByReadings 7 = .ok (.ifCond .ne 5, 3) := by decide +kernel
theorem d_b_judgementByReadings_10 : decode c_b_judgementByReadings 10 = .ok (.iconst 1, 1) := by decide +kernel
theorem d_b_judgementByReadings_11 : decode c_b_judgementByReadings 11 = .ok (.ireturn, 1) := by decide +kernel
theorem d_b_judgementByReadings_12 : decode c_b_judgementByReadings 12 = .ok (.aload_n 1, 1) := by decide +kernel
theorem d_b_judgementByReadings_13 : decode c_b_judgementByReadings 13 = .ok (.getfield 97, 3) := by decide +kernel
theorem d_b_judgementByReadings_16 : decode c_b_judgementByReadings 16 = .ok (.invokevirtual 285, 3) := by decide +kernel
theorem d_b_judgementByReadings_19 : decode c_b_judgementByReadings 19 = .ok (.ifCond .ne 5, 3) := by decide +kernel
theorem d_b_judgementByReadings_22 : decode c_b_judgementByReadings 22 = .ok (.iconst 2, 1) := by decide +kernel
theorem d_b_judgementByReadings_23 : decode c_b_judgementByReadings 23 = .ok (.ireturn, 1) := by decide +kernel
theorem d_b_judgementByReadings_24 : decode c_b_judgementByReadings 24 = .ok (.iload_n 2, 1) := by decide +kernel
theorem d_b_judgementByReadings_25 : decode c_b_judgementByReadings 25 = .ok (.iconst (-1), 1) := by decide +kernel
theorem d_b_judgementByReadings_26 : decode c_b_judgementByReadings 26 = .ok (.if_icmp .ne 5, 3) := by decide +kernel
theorem d_b_judgementByReadings_29 : decode c_b_judgementByReadings 29 = .ok (.iconst 3, 1) := by decide +kernel
theorem d_b_judgementByReadings_30 : decode c_b_judgementByReadings 30 = .ok (.ireturn, 1) := by decide +kernel
theorem d_b_judgementByReadings_31 : decode c_b_judgementByReadings 31 = .ok (.aload_n 0, 1) := by decide +kernel
theorem d_b_judgementByReadings_32 : decode c_b_judgementByReadings 32 = .ok (.getfield 12, 3) := by decide +kernel
theorem d_b_judgementByReadings_35 : decode c_b_judgementByReadings 35 = .ok (.iload_n 2, 1) := by decide +kernel
theorem d_b_judgementByReadings_36 : decode c_b_judgementByReadings 36 = .ok (.aload_n 1, 1) := by decide +kernel
theorem d_b_judgementByReadings_37 : decode c_b_judgementByReadings 37 = .ok (.getfield 112, 3) := by decide +kernel
theorem d_b_judgementByReadings_40 : decode c_b_judgementByReadings 40 = .ok (.invokevirtual 288, 3) := by decide +kernel
theorem d_b_judgementByReadings_43 : decode c_b_judgementByReadings 43 = .ok (.ifCond .ne 5, 3) := by decide +kernel
theorem d_b_judgementByReadings_46 : decode c_b_judgementByReadings 46 = .ok (.iconst 4, 1) := by decide +kernel
theorem d_b_judgementByReadings_47 : decode c_b_judgementByReadings 47 = .ok (.ireturn, 1) := by decide +kernel
theorem d_b_judgementByReadings_48 : decode c_b_judgementByReadings 48 = .ok (.aload_n 0, 1) := by decide +kernel
theorem d_b_judgementByReadings_49 : decode c_b_judgementByReadings 49 = .ok (.getfield 12, 3) := by decide +kernel
theorem d_b_judgementByReadings_52 : decode c_b_judgementByReadings 52 = .ok (.iload_n 2, 1) := by decide +kernel
theorem d_b_judgementByReadings_53 : decode c_b_judgementByReadings 53 = .ok (.aload_n 1, 1) := by decide +kernel
theorem d_b_judgementByReadings_54 : decode c_b_judgementByReadings 54 = .ok (.getfield 109, 3) := by decide +kernel
theorem d_b_judgementByReadings_57 : decode c_b_judgementByReadings 57 = .ok (.invokevirtual 291, 3) := by decide +kernel
theorem d_b_judgementByReadings_60 : decode c_b_judgementByReadings 60 = .ok (.ifCond .ne 5, 3) := by decide +kernel
theorem d_b_judgementByReadings_63 : decode c_b_judgementByReadings 63 = .ok (.iconst 5, 1) := by decide +kernel
theorem d_b_judgementByReadings_64 : decode c_b_judgementByReadings 64 = .ok (.ireturn, 1) := by decide +kernel
theorem d_b_judgementByReadings_65 : decode c_b_judgementByReadings 65 = .ok (.bipush 10, 2) := by decide +kernel
theorem d_b_judgementByReadings_67 : decode c_b_judgementByReadings 67 = .ok (.ireturn, 1) := by decide +kernel
theorem d_b_acceptedFor_0 : decode c_b_acceptedFor 0 = .ok (.iconst 0, 1) := by decide +kernel
theorem d_b_acceptedFor_1 : decode c_b_acceptedFor 1 = .ok (.istore_n 2, 1) := by decide +kernel
theorem d_b_acceptedFor_2 : decode c_b_acceptedFor 2 = .ok (.iconst 0, 1) := by decide +kernel
theorem d_b_acceptedFor_3 : decode c_b_acceptedFor 3 = .ok (.istore_n 3, 1) := by decide +kernel
theorem d_b_acceptedFor_4 : decode c_b_acceptedFor 4 = .ok (.iload_n 3, 1) := by decide +kernel
theorem d_b_acceptedFor_5 : decode c_b_acceptedFor 5 = .ok (.aload_n 0, 1) := by decide +kernel
theorem d_b_acceptedFor_6 : decode c_b_acceptedFor 6 = .ok (.getfield 19, 3) := by decide +kernel
theorem d_b_acceptedFor_9 : decode c_b_acceptedFor 9 = .ok (.getfield 127, 3) := by decide +kernel
theorem d_b_acceptedFor_12 : decode c_b_acceptedFor 12 = .ok (.if_icmp .ge 46, 3) := by decide +kernel
theorem d_b_acceptedFor_15 : decode c_b_acceptedFor 15 = .ok (.aload_n 0, 1) := by decide +kernel
theorem d_b_acceptedFor_16 : decode c_b_acceptedFor 16 = .ok (.getfield 19, 3) := by decide +kernel
theorem d_b_acceptedFor_19 : decode c_b_acceptedFor 19 = .ok (.getfield 232, 3) := by decide +kernel
theorem d_b_acceptedFor_22 : decode c_b_acceptedFor 22 = .ok (.iload_n 3, 1) := by decide +kernel
theorem d_b_acceptedFor_23 : decode c_b_acceptedFor 23 = .ok (.aaload, 1) := by decide +kernel
theorem d_b_acceptedFor_24 : decode c_b_acceptedFor 24 = .ok (.getfield 225, 3) := by decide +kernel
theorem d_b_acceptedFor_27 : decode c_b_acceptedFor 27 = .ok (.istore 4, 2) := by decide +kernel
theorem d_b_acceptedFor_29 : decode c_b_acceptedFor 29 = .ok (.iload 4, 2) := by decide +kernel
theorem d_b_acceptedFor_31 : decode c_b_acceptedFor 31 = .ok (.iconst (-1), 1) := by decide +kernel
theorem d_b_acceptedFor_32 : decode c_b_acceptedFor 32 = .ok (.if_icmp .eq 20, 3) := by decide +kernel
theorem d_b_acceptedFor_35 : decode c_b_acceptedFor 35 = .ok (.aload_n 0, 1) := by decide +kernel
theorem d_b_acceptedFor_36 : decode c_b_acceptedFor 36 = .ok (.getfield 12, 3) := by decide +kernel
theorem d_b_acceptedFor_39 : decode c_b_acceptedFor 39 = .ok (.getfield 295, 3) := by decide +kernel
theorem d_b_acceptedFor_42 : decode c_b_acceptedFor 42 = .ok (.iload 4, 2) := by decide +kernel
theorem d_b_acceptedFor_44 : decode c_b_acceptedFor 44 = .ok (.iaload, 1) := by decide +kernel
theorem d_b_acceptedFor_45 : decode c_b_acceptedFor 45 = .ok (.iload_n 1, 1) := by decide +kernel
theorem d_b_acceptedFor_46 : decode c_b_acceptedFor 46 = .ok (.if_icmp .ne 6, 3) := by decide +kernel
theorem d_b_acceptedFor_49 : decode c_b_acceptedFor 49 = .ok (.iinc 2 1, 3) := by decide +kernel
theorem d_b_acceptedFor_52 : decode c_b_acceptedFor 52 = .ok (.iinc 3 1, 3) := by decide +kernel
theorem d_b_acceptedFor_55 : decode c_b_acceptedFor 55 = .ok (.goto (-51), 3) := by decide +kernel
theorem d_b_acceptedFor_58 : decode c_b_acceptedFor 58 = .ok (.iload_n 2, 1) := by decide +kernel
theorem d_b_acceptedFor_59 : decode c_b_acceptedFor 59 = .ok (.ireturn, 1) := by decide +kernel
theorem d_vo_isFull_0 : decode c_vo_isFull 0 = .ok (.aload_n 0, 1) := by decide +kernel
theorem d_vo_isFull_1 : decode c_vo_isFull 1 = .ok (.getfield 22, 3) := by decide +kernel
theorem d_vo_isFull_4 : decode c_vo_isFull 4 = .ok (.bipush 60, 2) := by decide +kernel
theorem d_vo_isFull_6 : decode c_vo_isFull 6 = .ok (.if_icmp .lt 7, 3) := by decide +kernel
theorem d_vo_isFull_9 : decode c_vo_isFull 9 = .ok (.iconst 1, 1) := by decide +kernel
theorem d_vo_isFull_10 : decode c_vo_isFull 10 = .ok (.goto 4, 3) := by decide +kernel
theorem d_vo_isFull_13 : decode c_vo_isFull 13 = .ok (.iconst 0, 1) := by decide +kernel
theorem d_vo_isFull_14 : decode c_vo_isFull 14 = .ok (.ireturn, 1) := by decide +kernel
theorem d_b_isSuspicious_0 : decode c_b_isSuspicious 0 = .ok (.aload_n 0, 1) := by decide +kernel
theorem d_b_isSuspicious_1 : decode c_b_isSuspicious 1 = .ok (.getfield 133, 3) := by decide +kernel
theorem d_b_isSuspicious_4 : decode c_b_isSuspicious 4 = .ok (.bipush 50, 2) := by decide +kernel
theorem d_b_isSuspicious_6 : decode c_b_isSuspicious 6 = .ok (.if_icmp .le 7, 3) := by decide +kernel
theorem d_b_isSuspicious_9 : decode c_b_isSuspicious 9 = .ok (.iconst 1, 1) := by decide +kernel
theorem d_b_isSuspicious_10 : decode c_b_isSuspicious 10 = .ok (.goto 4, 3) := by decide +kernel
theorem d_b_isSuspicious_13 : decode c_b_isSuspicious 13 = .ok (.iconst 0, 1) := by decide +kernel
theorem d_b_isSuspicious_14 : decode c_b_isSuspicious 14 = .ok (.ireturn, 1) := by decide +kernel
theorem d_la_isLike_0 : decode c_la_isLike 0 = .ok (.iconst 0, 1) := by decide +kernel
theorem d_la_isLike_1 : decode c_la_isLike 1 = .ok (.istore_n 2, 1) := by decide +kernel
theorem d_la_isLike_2 : decode c_la_isLike 2 = .ok (.iload_n 2, 1) := by decide +kernel
theorem d_la_isLike_3 : decode c_la_isLike 3 = .ok (.bipush 8, 2) := by decide +kernel
theorem d_la_isLike_5 : decode c_la_isLike 5 = .ok (.if_icmp .ge 26, 3) := by decide +kernel
theorem d_la_isLike_8 : decode c_la_isLike 8 = .ok (.aload_n 1, 1) := by decide +kernel
theorem d_la_isLike_9 : decode c_la_isLike 9 = .ok (.getfield 23, 3) := by decide +kernel
theorem d_la_isLike_12 : decode c_la_isLike 12 = .ok (.iload_n 2, 1) := by decide +kernel
theorem d_la_isLike_13 : decode c_la_isLike 13 = .ok (.iaload, 1) := by decide +kernel
theorem d_la_isLike_14 : decode c_la_isLike 14 = .ok (.aload_n 0, 1) := by decide +kernel
theorem d_la_isLike_15 : decode c_la_isLike 15 = .ok (.getfield 9, 3) := by decide +kernel
theorem d_la_isLike_18 : decode c_la_isLike 18 = .ok (.iload_n 2, 1) := by decide +kernel
theorem d_la_isLike_19 : decode c_la_isLike 19 = .ok (.iaload, 1) := by decide +kernel
theorem d_la_isLike_20 : decode c_la_isLike 20 = .ok (.if_icmp .eq 5, 3) := by decide +kernel
theorem d_la_isLike_23 : decode c_la_isLike 23 = .ok (.iconst 0, 1) := by decide +kernel
theorem d_la_isLike_24 : decode c_la_isLike 24 = .ok (.ireturn, 1) := by decide +kernel
theorem d_la_isLike_25 : decode c_la_isLike 25 = .ok (.iinc 2 1, 3) := by decide +kernel
theorem d_la_isLike_28 : decode c_la_isLike 28 = .ok (.goto (-26), 3) := by decide +kernel
theorem d_la_isLike_31 : decode c_la_isLike 31 = .ok (.iconst 1, 1) := by decide +kernel
theorem d_la_isLike_32 : decode c_la_isLike 32 = .ok (.ireturn, 1) := by decide +kernel
theorem d_la_areAllLike_0 : decode c_la_areAllLike 0 = .ok (.aload_n 0, 1) := by decide +kernel
theorem d_la_areAllLike_1 : decode c_la_areAllLike 1 = .ok (.getfield 15, 3) := by decide +kernel
theorem d_la_areAllLike_4 : decode c_la_areAllLike 4 = .ok (.iconst 3, 1) := by decide +kernel
theorem d_la_areAllLike_5 : decode c_la_areAllLike 5 = .ok (.if_icmp .lt 15, 3) := by decide +kernel
theorem d_la_areAllLike_8 : decode c_la_areAllLike 8 = .ok (.aload_n 0, 1) := by decide +kernel
theorem d_la_areAllLike_9 : decode c_la_areAllLike 9 = .ok (.aload_n 1, 1) := by decide +kernel
theorem d_la_areAllLike_10 : decode c_la_areAllLike 10 = .ok (.invokevirtual 19, 3) := by decide +kernel
theorem d_la_areAllLike_13 : decode c_la_areAllLike 13 = .ok (.ifCond .eq 7, 3) := by decide +kernel
theorem d_la_areAllLike_16 : decode c_la_areAllLike 16 = .ok (.iconst 1, 1) := by decide +kernel
theorem d_la_areAllLike_17 : decode c_la_areAllLike 17 = .ok (.goto 4, 3) := by decide +kernel
theorem d_la_areAllLike_20 : decode c_la_areAllLike 20 = .ok (.iconst 0, 1) := by decide +kernel
theorem d_la_areAllLike_21 : decode c_la_areAllLike 21 = .ok (.ireturn, 1) := by decide +kernel
theorem d_b_judgementByState_0 : decode c_b_judgementByState 0 = .ok (.aload_n 0, 1) := by decide +kernel
theorem d_b_judgementByState_1 : decode c_b_judgementByState 1 = .ok (.getfield 12, 3) := by decide +kernel
theorem d_b_judgementByState_4 : decode c_b_judgementByState 4 = .ok (.getfield 295, 3) := by decide +kernel
theorem d_b_judgementByState_7 : decode c_b_judgementByState 7 = .ok (.iload_n 2, 1) := by decide +kernel
theorem d_b_judgementByState_8 : decode c_b_judgementByState 8 = .ok (.iaload, 1) := by decide +kernel
theorem d_b_judgementByState_9 : decode c_b_judgementByState 9 = .ok (.istore_n 3, 1) := by decide +kernel
theorem d_b_judgementByState_10 : decode c_b_judgementByState 10 = .ok (.aload_n 0, 1) := by decide +kernel
theorem d_b_judgementByState_11 : decode c_b_judgementByState 11 = .ok (.getfield 26, 3) := by decide +kernel
theorem d_b_judgementByState_14 : decode c_b_judgementByState 14 = .ok (.getfield 164, 3) := by decide +kernel
theorem d_b_judgementByState_17 : decode c_b_judgementByState 17 = .ok (.iload_n 3, 1) := by decide +kernel
theorem d_b_judgementByState_18 : decode c_b_judgementByState 18 = .ok (.iaload, 1) := by decide +kernel
theorem d_b_judgementByState_19 : decode c_b_judgementByState 19 = .ok (.aload_n 0, 1) := by decide +kernel
theorem d_b_judgementByState_20 : decode c_b_judgementByState 20 = .ok (.iload_n 3, 1) := by decide +kernel
theorem d_b_judgementByState_21 : decode c_b_judgementByState 21 = .ok (.invokevirtual 297, 3) := by decide +kernel
theorem d_b_judgementByState_24 : decode c_b_judgementByState 24 = .ok (.iadd, 1) := by decide +kernel
theorem d_b_judgementByState_25 : decode c_b_judgementByState 25 = .ok (.aload_n 0, 1) := by decide +kernel
theorem d_b_judgementByState_26 : decode c_b_judgementByState 26 = .ok (.getfield 26, 3) := by decide +kernel
theorem d_b_judgementByState_29 : decode c_b_judgementByState 29 = .ok (.getfield 167, 3) := by decide +kernel
theorem d_b_judgementByState_32 : decode c_b_judgementByState 32 = .ok (.iload_n 3, 1) := by decide +kernel
theorem d_b_judgementByState_33 : decode c_b_judgementByState 33 = .ok (.iaload, 1) := by decide +kernel
theorem d_b_judgementByState_34 : decode c_b_judgementByState 34 = .ok (.if_icmp .lt 6, 3) := by decide +kernel
theorem d_b_judgementByState_37 : decode c_b_judgementByState 37 = .ok (.bipush 6, 2) := by decide +kernel
theorem d_b_judgementByState_39 : decode c_b_judgementByState 39 = .ok (.ireturn, 1) := by decide +kernel
theorem d_b_judgementByState_40 : decode c_b_judgementByState 40 = .ok (.aload_n 0, 1) := by decide +kernel
theorem d_b_judgementByState_41 : decode c_b_judgementByState 41 = .ok (.getfield 33, 3) := by decide +kernel
theorem d_b_judgementByState_44 : decode c_b_judgementByState 44 = .ok (.invokevirtual 139, 3) := by decide +kernel
theorem d_b_judgementByState_47 : decode c_b_judgementByState 47 = .ok (.ifCond .eq 6, 3) := by decide +kernel
theorem d_b_judgementByState_50 : decode c_b_judgementByState 50 = .ok (.bipush 7, 2) := by decide +kernel
theorem d_b_judgementByState_52 : decode c_b_judgementByState 52 = .ok (.ireturn, 1) := by decide +kernel
theorem d_b_judgementByState_53 : decode c_b_judgementByState 53 = .ok (.aload_n 0, 1) := by decide +kernel
theorem d_b_judgementByState_54 : decode c_b_judgementByState 54 = .ok (.invokevirtual 170, 3) := by decide +kernel
theorem d_b_judgementByState_57 : decode c_b_judgementByState 57 = .ok (.ifCond .eq 6, 3) := by decide +kernel
theorem d_b_judgementByState_60 : decode c_b_judgementByState 60 = .ok (.bipush 8, 2) := by decide +kernel
theorem d_b_judgementByState_62 : decode c_b_judgementByState 62 = .ok (.ireturn, 1) := by decide +kernel
theorem d_b_judgementByState_63 : decode c_b_judgementByState 63 = .ok (.aload_n 0, 1) := by decide +kernel
theorem d_b_judgementByState_64 : decode c_b_judgementByState 64 = .ok (.getfield 47, 3) := by decide +kernel
theorem d_b_judgementByState_67 : decode c_b_judgementByState 67 = .ok (.aload_n 1, 1) := by decide +kernel
theorem d_b_judgementByState_68 : decode c_b_judgementByState 68 = .ok (.getfield 109, 3) := by decide +kernel
theorem d_b_judgementByState_71 : decode c_b_judgementByState 71 = .ok (.invokevirtual 300, 3) := by decide +kernel
theorem d_b_judgementByState_74 : decode c_b_judgementByState 74 = .ok (.ifCond .eq 6, 3) := by decide +kernel
theorem d_b_judgementByState_77 : decode c_b_judgementByState 77 = .ok (.bipush 9, 2) := by decide +kernel
theorem d_b_judgementByState_79 : decode c_b_judgementByState 79 = .ok (.ireturn, 1) := by decide +kernel
theorem d_b_judgementByState_80 : decode c_b_judgementByState 80 = .ok (.bipush 10, 2) := by decide +kernel
theorem d_b_judgementByState_82 : decode c_b_judgementByState 82 = .ok (.ireturn, 1) := by decide +kernel
theorem d_jo_write_0 : decode c_jo_write 0 = .ok (.aload_n 0, 1) := by decide +kernel
theorem d_jo_write_1 : decode c_jo_write 1 = .ok (.getfield 13, 3) := by decide +kernel
theorem d_jo_write_4 : decode c_jo_write 4 = .ok (.iconst 1, 1) := by decide +kernel
theorem d_jo_write_5 : decode c_jo_write 5 = .ok (.if_icmp .ne 15, 3) := by decide +kernel
theorem d_jo_write_8 : decode c_jo_write 8 = .ok (.aload_n 0, 1) := by decide +kernel
theorem d_jo_write_9 : decode c_jo_write 9 = .ok (.iconst 0, 1) := by decide +kernel
theorem d_jo_write_10 : decode c_jo_write 10 = .ok (.putfield 13, 3) := by decide +kernel
theorem d_jo_write_13 : decode c_jo_write 13 = .ok (.aload_n 0, 1) := by decide +kernel
theorem d_jo_write_14 : decode c_jo_write 14 = .ok (.iconst 0, 1) := by decide +kernel
theorem d_jo_write_15 : decode c_jo_write 15 = .ok (.putfield 7, 3) := by decide +kernel
theorem d_jo_write_18 : decode c_jo_write 18 = .ok (.iconst 0, 1) := by decide +kernel
theorem d_jo_write_19 : decode c_jo_write 19 = .ok (.ireturn, 1) := by decide +kernel
theorem d_jo_write_20 : decode c_jo_write 20 = .ok (.aload_n 0, 1) := by decide +kernel
theorem d_jo_write_21 : decode c_jo_write 21 = .ok (.getfield 13, 3) := by decide +kernel
theorem d_jo_write_24 : decode c_jo_write 24 = .ok (.iconst 1, 1) := by decide +kernel
theorem d_jo_write_25 : decode c_jo_write 25 = .ok (.if_icmp .le 13, 3) := by decide +kernel
theorem d_jo_write_28 : decode c_jo_write 28 = .ok (.aload_n 0, 1) := by decide +kernel
theorem d_jo_write_29 : decode c_jo_write 29 = .ok (.dup, 1) := by decide +kernel
theorem d_jo_write_30 : decode c_jo_write 30 = .ok (.getfield 13, 3) := by decide +kernel
theorem d_jo_write_33 : decode c_jo_write 33 = .ok (.iconst 1, 1) := by decide +kernel
theorem d_jo_write_34 : decode c_jo_write 34 = .ok (.isub, 1) := by decide +kernel
theorem d_jo_write_35 : decode c_jo_write 35 = .ok (.putfield 13, 3) := by decide +kernel
theorem d_jo_write_38 : decode c_jo_write 38 = .ok (.aload_n 0, 1) := by decide +kernel
theorem d_jo_write_39 : decode c_jo_write 39 = .ok (.dup, 1) := by decide +kernel
theorem d_jo_write_40 : decode c_jo_write 40 = .ok (.getfield 17, 3) := by decide +kernel
theorem d_jo_write_43 : decode c_jo_write 43 = .ok (.iconst 1, 1) := by decide +kernel
theorem d_jo_write_44 : decode c_jo_write 44 = .ok (.iadd, 1) := by decide +kernel
theorem d_jo_write_45 : decode c_jo_write 45 = .ok (.putfield 17, 3) := by decide +kernel
theorem d_jo_write_48 : decode c_jo_write 48 = .ok (.iconst 1, 1) := by decide +kernel
theorem d_jo_write_49 : decode c_jo_write 49 = .ok (.ireturn, 1) := by decide +kernel
theorem d_la_note_0 : decode c_la_note 0 = .ok (.aload_n 0, 1) := by decide +kernel
theorem d_la_note_1 : decode c_la_note 1 = .ok (.getfield 15, 3) := by decide +kernel
theorem d_la_note_4 : decode c_la_note 4 = .ok (.ifCond .le 22, 3) := by decide +kernel
theorem d_la_note_7 : decode c_la_note 7 = .ok (.aload_n 0, 1) := by decide +kernel
theorem d_la_note_8 : decode c_la_note 8 = .ok (.aload_n 1, 1) := by decide +kernel
theorem d_la_note_9 : decode c_la_note 9 = .ok (.invokevirtual 19, 3) := by decide +kernel
theorem d_la_note_12 : decode c_la_note 12 = .ok (.ifCond .eq 14, 3) := by decide +kernel
theorem d_la_note_15 : decode c_la_note 15 = .ok (.aload_n 0, 1) := by decide +kernel
theorem d_la_note_16 : decode c_la_note 16 = .ok (.dup, 1) := by decide +kernel
theorem d_la_note_17 : decode c_la_note 17 = .ok (.getfield 15, 3) := by decide +kernel
theorem d_la_note_20 : decode c_la_note 20 = .ok (.iconst 1, 1) := by decide +kernel
theorem d_la_note_21 : decode c_la_note 21 = .ok (.iadd, 1) := by decide +kernel
theorem d_la_note_22 : decode c_la_note 22 = .ok (.putfield 15, 3) := by decide +kernel
theorem d_la_note_25 : decode c_la_note 25 = .ok (.return_, 1) := by decide +kernel
theorem d_la_note_26 : decode c_la_note 26 = .ok (.aload_n 1, 1) := by decide +kernel
theorem d_la_note_27 : decode c_la_note 27 = .ok (.getfield 23, 3) := by decide +kernel
theorem d_la_note_30 : decode c_la_note 30 = .ok (.iconst 0, 1) := by decide +kernel
theorem d_la_note_31 : decode c_la_note 31 = .ok (.aload_n 0, 1) := by decide +kernel
theorem d_la_note_32 : decode c_la_note 32 = .ok (.getfield 9, 3) := by decide +kernel
theorem d_la_note_35 : decode c_la_note 35 = .ok (.iconst 0, 1) := by decide +kernel
theorem d_la_note_36 : decode c_la_note 36 = .ok (.bipush 8, 2) := by decide +kernel
theorem d_la_note_38 : decode c_la_note 38 = .ok (.invokestatic 28, 3) := by decide +kernel
theorem d_la_note_41 : decode c_la_note 41 = .ok (.aload_n 0, 1) := by decide +kernel
theorem d_la_note_42 : decode c_la_note 42 = .ok (.iconst 1, 1) := by decide +kernel
theorem d_la_note_43 : decode c_la_note 43 = .ok (.putfield 15, 3) := by decide +kernel
theorem d_la_note_46 : decode c_la_note 46 = .ok (.return_, 1) := by decide +kernel
theorem d_b_judge_0 : decode c_b_judge 0 = .ok (.aload_n 0, 1) := by decide +kernel
theorem d_b_judge_1 : decode c_b_judge 1 = .ok (.getfield 12, 3) := by decide +kernel
theorem d_b_judge_4 : decode c_b_judge 4 = .ok (.aload_n 1, 1) := by decide +kernel
theorem d_b_judge_5 : decode c_b_judge 5 = .ok (.invokevirtual 270, 3) := by decide +kernel
theorem d_b_judge_8 : decode c_b_judge 8 = .ok (.istore_n 2, 1) := by decide +kernel
theorem d_b_judge_9 : decode c_b_judge 9 = .ok (.aload_n 0, 1) := by decide +kernel
theorem d_b_judge_10 : decode c_b_judge 10 = .ok (.aload_n 1, 1) := by decide +kernel
theorem d_b_judge_11 : decode c_b_judge 11 = .ok (.iload_n 2, 1) := by decide +kernel
theorem d_b_judge_12 : decode c_b_judge 12 = .ok (.invokevirtual 274, 3) := by decide +kernel
theorem d_b_judge_15 : decode c_b_judge 15 = .ok (.istore_n 3, 1) := by decide +kernel
theorem d_b_judge_16 : decode c_b_judge 16 = .ok (.iload_n 3, 1) := by decide +kernel
theorem d_b_judge_17 : decode c_b_judge 17 = .ok (.bipush 10, 2) := by decide +kernel
theorem d_b_judge_19 : decode c_b_judge 19 = .ok (.if_icmp .ne 10, 3) := by decide +kernel
theorem d_b_judge_22 : decode c_b_judge 22 = .ok (.aload_n 0, 1) := by decide +kernel
theorem d_b_judge_23 : decode c_b_judge 23 = .ok (.aload_n 1, 1) := by decide +kernel
theorem d_b_judge_24 : decode c_b_judge 24 = .ok (.iload_n 2, 1) := by decide +kernel
theorem d_b_judge_25 : decode c_b_judge 25 = .ok (.invokevirtual 278, 3) := by decide +kernel
theorem d_b_judge_28 : decode c_b_judge 28 = .ok (.istore_n 3, 1) := by decide +kernel
theorem d_b_judge_29 : decode c_b_judge 29 = .ok (.iload_n 3, 1) := by decide +kernel
theorem d_b_judge_30 : decode c_b_judge 30 = .ok (.bipush 10, 2) := by decide +kernel
theorem d_b_judge_32 : decode c_b_judge 32 = .ok (.if_icmp .eq 21, 3) := by decide +kernel
theorem d_b_judge_35 : decode c_b_judge 35 = .ok (.aload_n 1, 1) := by decide +kernel
theorem d_b_judge_36 : decode c_b_judge 36 = .ok (.iload_n 3, 1) := by decide +kernel
theorem d_b_judge_37 : decode c_b_judge 37 = .ok (.putfield 222, 3) := by decide +kernel
theorem d_b_judge_40 : decode c_b_judge 40 = .ok (.aload_n 0, 1) := by decide +kernel
theorem d_b_judge_41 : decode c_b_judge 41 = .ok (.getfield 51, 3) := by decide +kernel
theorem d_b_judge_44 : decode c_b_judge 44 = .ok (.iload_n 3, 1) := by decide +kernel
theorem d_b_judge_45 : decode c_b_judge 45 = .ok (.dup2, 1) := by decide +kernel
theorem d_b_judge_46 : decode c_b_judge 46 = .ok (.iaload, 1) := by decide +kernel
theorem d_b_judge_47 : decode c_b_judge 47 = .ok (.iconst 1, 1) := by decide +kernel
theorem d_b_judge_48 : decode c_b_judge 48 = .ok (.iadd, 1) := by decide +kernel
theorem d_b_judge_49 : decode c_b_judge 49 = .ok (.iastore, 1) := by decide +kernel
theorem d_b_judge_50 : decode c_b_judge 50 = .ok (.goto 35, 3) := by decide +kernel
theorem d_b_judge_53 : decode c_b_judge 53 = .ok (.aload_n 0, 1) := by decide +kernel
theorem d_b_judge_54 : decode c_b_judge 54 = .ok (.getfield 40, 3) := by decide +kernel
theorem d_b_judge_57 : decode c_b_judge 57 = .ok (.invokevirtual 142, 3) := by decide +kernel
theorem d_b_judge_60 : decode c_b_judge 60 = .ok (.ifCond .eq 25, 3) := by decide +kernel
theorem d_b_judge_63 : decode c_b_judge 63 = .ok (.aload_n 1, 1) := by decide +kernel
theorem d_b_judge_64 : decode c_b_judge 64 = .ok (.bipush 10, 2) := by decide +kernel
theorem d_b_judge_66 : decode c_b_judge 66 = .ok (.putfield 222, 3) := by decide +kernel
theorem d_b_judge_69 : decode c_b_judge 69 = .ok (.aload_n 1, 1) := by decide +kernel
theorem d_b_judge_70 : decode c_b_judge 70 = .ok (.iload_n 2, 1) := by decide +kernel
theorem d_b_judge_71 : decode c_b_judge 71 = .ok (.putfield 225, 3) := by decide +kernel
theorem d_b_judge_74 : decode c_b_judge 74 = .ok (.aload_n 0, 1) := by decide +kernel
theorem d_b_judge_75 : decode c_b_judge 75 = .ok (.getfield 47, 3) := by decide +kernel
theorem d_b_judge_78 : decode c_b_judge 78 = .ok (.aload_n 1, 1) := by decide +kernel
theorem d_b_judge_79 : decode c_b_judge 79 = .ok (.getfield 109, 3) := by decide +kernel
theorem d_b_judge_82 : decode c_b_judge 82 = .ok (.invokevirtual 281, 3) := by decide +kernel
theorem d_b_judge_85 : decode c_b_judge 85 = .ok (.return_, 1) := by decide +kernel
theorem d_b_pay_0 : decode c_b_pay 0 = .ok (.aload_n 1, 1) := by decide +kernel
theorem d_b_pay_1 : decode c_b_pay 1 = .ok (.getfield 225, 3) := by decide +kernel
theorem d_b_pay_4 : decode c_b_pay 4 = .ok (.iconst (-1), 1) := by decide +kernel
theorem d_b_pay_5 : decode c_b_pay 5 = .ok (.if_icmp .eq 13, 3) := by decide +kernel
theorem d_b_pay_8 : decode c_b_pay 8 = .ok (.aload_n 0, 1) := by decide +kernel
theorem d_b_pay_9 : decode c_b_pay 9 = .ok (.getfield 40, 3) := by decide +kernel
theorem d_b_pay_12 : decode c_b_pay 12 = .ok (.invokevirtual 142, 3) := by decide +kernel
theorem d_b_pay_15 : decode c_b_pay 15 = .ok (.ifCond .ne 4, 3) := by decide +kernel
theorem d_b_pay_18 : decode c_b_pay 18 = .ok (.return_, 1) := by decide +kernel
theorem d_b_pay_19 : decode c_b_pay 19 = .ok (.aload_n 0, 1) := by decide +kernel
theorem d_b_pay_20 : decode c_b_pay 20 = .ok (.getfield 12, 3) := by decide +kernel
theorem d_b_pay_23 : decode c_b_pay 23 = .ok (.getfield 304, 3) := by decide +kernel
theorem d_b_pay_26 : decode c_b_pay 26 = .ok (.aload_n 1, 1) := by decide +kernel
theorem d_b_pay_27 : decode c_b_pay 27 = .ok (.getfield 225, 3) := by decide +kernel
theorem d_b_pay_30 : decode c_b_pay 30 = .ok (.iaload, 1) := by decide +kernel
theorem d_b_pay_31 : decode c_b_pay 31 = .ok (.istore_n 2, 1) := by decide +kernel
theorem d_b_pay_32 : decode c_b_pay 32 = .ok (.aload_n 1, 1) := by decide +kernel
theorem d_b_pay_33 : decode c_b_pay 33 = .ok (.iconst 1, 1) := by decide +kernel
theorem d_b_pay_34 : decode c_b_pay 34 = .ok (.putfield 228, 3) := by decide +kernel
theorem d_b_pay_37 : decode c_b_pay 37 = .ok (.aload_n 0, 1) := by decide +kernel
theorem d_b_pay_38 : decode c_b_pay 38 = .ok (.dup, 1) := by decide +kernel
theorem d_b_pay_39 : decode c_b_pay 39 = .ok (.getfield 136, 3) := by decide +kernel
theorem d_b_pay_42 : decode c_b_pay 42 = .ok (.iload_n 2, 1) := by decide +kernel
theorem d_b_pay_43 : decode c_b_pay 43 = .ok (.iadd, 1) := by decide +kernel
theorem d_b_pay_44 : decode c_b_pay 44 = .ok (.putfield 136, 3) := by decide +kernel
theorem d_b_pay_47 : decode c_b_pay 47 = .ok (.aload_n 0, 1) := by decide +kernel
theorem d_b_pay_48 : decode c_b_pay 48 = .ok (.dup, 1) := by decide +kernel
theorem d_b_pay_49 : decode c_b_pay 49 = .ok (.getfield 242, 3) := by decide +kernel
theorem d_b_pay_52 : decode c_b_pay 52 = .ok (.iload_n 2, 1) := by decide +kernel
theorem d_b_pay_53 : decode c_b_pay 53 = .ok (.iadd, 1) := by decide +kernel
theorem d_b_pay_54 : decode c_b_pay 54 = .ok (.putfield 242, 3) := by decide +kernel
theorem d_b_pay_57 : decode c_b_pay 57 = .ok (.aload_n 0, 1) := by decide +kernel
theorem d_b_pay_58 : decode c_b_pay 58 = .ok (.dup, 1) := by decide +kernel
theorem d_b_pay_59 : decode c_b_pay 59 = .ok (.getfield 239, 3) := by decide +kernel
theorem d_b_pay_62 : decode c_b_pay 62 = .ok (.iconst 1, 1) := by decide +kernel
theorem d_b_pay_63 : decode c_b_pay 63 = .ok (.iadd, 1) := by decide +kernel
theorem d_b_pay_64 : decode c_b_pay 64 = .ok (.putfield 239, 3) := by decide +kernel
theorem d_b_pay_67 : decode c_b_pay 67 = .ok (.return_, 1) := by decide +kernel
end
section
/-! decode rows -/
theorem d_be_takeOff_0 : decode c_be_takeOff 0 = .ok (.aload_n 0, 1) := by decide +kernel
theorem d_be_takeOff_1 : decode c_be_takeOff 1 = .ok (.getfield 11, 3) := by decide +kernel
theorem d_be_takeOff_4 : decode c_be_takeOff 4 = .ok (.iload_n 1, 1) := by decide +kernel
theorem d_be_takeOff_5 : decode c_be_takeOff 5 = .ok (.aaload, 1) := by decide +kernel
theorem d_be_takeOff_6 : decode c_be_takeOff 6 = .ok (.astore_n 2, 1) := by decide +kernel
theorem d_be_takeOff_7 : decode c_be_takeOff 7 = .ok (.aload_n 0, 1) := by decide +kernel
theorem d_be_takeOff_8 : decode c_be_takeOff 8 = .ok (.dup, 1) := by decide +kernel
theorem d_be_takeOff_9 : decode c_be_takeOff 9 = .ok (.getfield 18, 3) := by decide +kernel
theorem d_be_takeOff_12 : decode c_be_takeOff 12 = .ok (.iconst 1, 1) := by decide +kernel
theorem d_be_takeOff_13 : decode c_be_takeOff 13 = .ok (.isub, 1) := by decide +kernel
theorem d_be_takeOff_14 : decode c_be_takeOff 14 = .ok (.putfield 18, 3) := by decide +kernel
theorem d_be_takeOff_17 : decode c_be_takeOff 17 = .ok (.iload_n 1, 1) := by decide +kernel
theorem d_be_takeOff_18 : decode c_be_takeOff 18 = .ok (.istore_n 3, 1) := by decide +kernel
theorem d_be_takeOff_19 : decode c_be_takeOff 19 = .ok (.iload_n 3, 1) := by decide +kernel
theorem d_be_takeOff_20 : decode c_be_takeOff 20 = .ok (.aload_n 0, 1) := by decide +kernel
theorem d_be_takeOff_21 : decode c_be_takeOff 21 = .ok (.getfield 18, 3) := by decide +kernel
theorem d_be_takeOff_24 : decode c_be_takeOff 24 = .ok (.if_icmp .ge 23, 3) := by decide +kernel
theorem d_be_takeOff_27 : decode c_be_takeOff 27 = .ok (.aload_n 0, 1) := by decide +kernel
theorem d_be_takeOff_28 : decode c_be_takeOff 28 = .ok (.getfield 11, 3) := by decide +kernel
theorem d_be_takeOff_31 : decode c_be_takeOff 31 = .ok (.iload_n 3, 1) := by decide +kernel
theorem d_be_takeOff_32 : decode c_be_takeOff 32 = .ok (.aload_n 0, 1) := by decide +kernel
theorem d_be_takeOff_33 : decode c_be_takeOff 33 = .ok (.getfield 11, 3) := by decide +kernel
theorem d_be_takeOff_36 : decode c_be_takeOff 36 = .ok (.iload_n 3, 1) := by decide +kernel
theorem d_be_takeOff_37 : decode c_be_takeOff 37 = .ok (.iconst 1, 1) := by decide +kernel
theorem d_be_takeOff_38 : decode c_be_takeOff 38 = .ok (.iadd, 1) := by decide +kernel
theorem d_be_takeOff_39 : decode c_be_takeOff 39 = .ok (.aaload, 1) := by decide +kernel
theorem d_be_takeOff_40 : decode c_be_takeOff 40 = .ok (.aastore, 1) := by decide +kernel
theorem d_be_takeOff_41 : decode c_be_takeOff 41 = .ok (.iinc 3 1, 3) := by decide +kernel
theorem d_be_takeOff_44 : decode c_be_takeOff 44 = .ok (.goto (-25), 3) := by decide +kernel
theorem d_be_takeOff_47 : decode c_be_takeOff 47 = .ok (.aload_n 0, 1) := by decide +kernel
theorem d_be_takeOff_48 : decode c_be_takeOff 48 = .ok (.getfield 11, 3) := by decide +kernel
theorem d_be_takeOff_51 : decode c_be_takeOff 51 = .ok (.aload_n 0, 1) := by decide +kernel
theorem d_be_takeOff_52 : decode c_be_takeOff 52 = .ok (.getfield 18, 3) := by decide +kernel
theorem d_be_takeOff_55 : decode c_be_takeOff 55 = .ok (.aload_n 2, 1) := by decide +kernel
theorem d_be_takeOff_56 : decode c_be_takeOff 56 = .ok (.aastore, 1) := by decide +kernel
theorem d_be_takeOff_57 : decode c_be_takeOff 57 = .ok (.return_, 1) := by decide +kernel
theorem d_b_intoBin_0 : decode c_b_intoBin 0 = .ok (.aload_n 0, 1) := by decide +kernel
theorem d_b_intoBin_1 : decode c_b_intoBin 1 = .ok (.getfield 19, 3) := by decide +kernel
theorem d_b_intoBin_4 : decode c_b_intoBin 4 = .ok (.getfield 232, 3) := by decide +kernel
theorem d_b_intoBin_7 : decode c_b_intoBin 7 = .ok (.iload_n 1, 1) := by decide +kernel
theorem d_b_intoBin_8 : decode c_b_intoBin 8 = .ok (.aaload, 1) := by decide +kernel
theorem d_b_intoBin_9 : decode c_b_intoBin 9 = .ok (.getfield 225, 3) := by decide +kernel
theorem d_b_intoBin_12 : decode c_b_intoBin 12 = .ok (.istore_n 2, 1) := by decide +kernel
theorem d_b_intoBin_13 : decode c_b_intoBin 13 = .ok (.iload_n 2, 1) := by decide +kernel
theorem d_b_intoBin_14 : decode c_b_intoBin 14 = .ok (.iconst (-1), 1) := by decide +kernel
theorem d_b_intoBin_15 : decode c_b_intoBin 15 = .ok (.if_icmp .eq 13, 3) := by decide +kernel
theorem d_b_intoBin_18 : decode c_b_intoBin 18 = .ok (.aload_n 0, 1) := by decide +kernel
theorem d_b_intoBin_19 : decode c_b_intoBin 19 = .ok (.getfield 40, 3) := by decide +kernel
theorem d_b_intoBin_22 : decode c_b_intoBin 22 = .ok (.invokevirtual 142, 3) := by decide +kernel
theorem d_b_intoBin_25 : decode c_b_intoBin 25 = .ok (.ifCond .ne 5, 3) := by decide +kernel
theorem d_b_intoBin_28 : decode c_b_intoBin 28 = .ok (.iconst 0, 1) := by decide +kernel
theorem d_b_intoBin_29 : decode c_b_intoBin 29 = .ok (.ireturn, 1) := by decide +kernel
theorem d_b_intoBin_30 : decode c_b_intoBin 30 = .ok (.aload_n 0, 1) := by decide +kernel
theorem d_b_intoBin_31 : decode c_b_intoBin 31 = .ok (.getfield 26, 3) := by decide +kernel
theorem d_b_intoBin_34 : decode c_b_intoBin 34 = .ok (.getfield 164, 3) := by decide +kernel
theorem d_b_intoBin_37 : decode c_b_intoBin 37 = .ok (.aload_n 0, 1) := by decide +kernel
theorem d_b_intoBin_38 : decode c_b_intoBin 38 = .ok (.getfield 12, 3) := by decide +kernel
theorem d_b_intoBin_41 : decode c_b_intoBin 41 = .ok (.getfield 295, 3) := by decide +kernel
theorem d_b_intoBin_44 : decode c_b_intoBin 44 = .ok (.iload_n 2, 1) := by decide +kernel
theorem d_b_intoBin_45 : decode c_b_intoBin 45 = .ok (.iaload, 1) := by decide +kernel
theorem d_b_intoBin_46 : decode c_b_intoBin 46 = .ok (.dup2, 1) := by decide +kernel
theorem d_b_intoBin_47 : decode c_b_intoBin 47 = .ok (.iaload, 1) := by decide +kernel
theorem d_b_intoBin_48 : decode c_b_intoBin 48 = .ok (.iconst 1, 1) := by decide +kernel
theorem d_b_intoBin_49 : decode c_b_intoBin 49 = .ok (.iadd, 1) := by decide +kernel
theorem d_b_intoBin_50 : decode c_b_intoBin 50 = .ok (.iastore, 1) := by decide +kernel
theorem d_b_intoBin_51 : decode c_b_intoBin 51 = .ok (.aload_n 0, 1) := by decide +kernel
theorem d_b_intoBin_52 : decode c_b_intoBin 52 = .ok (.getfield 19, 3) := by decide +kernel
theorem d_b_intoBin_55 : decode c_b_intoBin 55 = .ok (.iload_n 1, 1) := by decide +kernel
theorem d_b_intoBin_56 : decode c_b_intoBin 56 = .ok (.invokevirtual 307, 3) := by decide +kernel
theorem d_b_intoBin_59 : decode c_b_intoBin 59 = .ok (.aload_n 0, 1) := by decide +kernel
theorem d_b_intoBin_60 : decode c_b_intoBin 60 = .ok (.iconst 0, 1) := by decide +kernel
theorem d_b_intoBin_61 : decode c_b_intoBin 61 = .ok (.putfield 133, 3) := by decide +kernel
theorem d_b_intoBin_64 : decode c_b_intoBin 64 = .ok (.iconst 1, 1) := by decide +kernel
theorem d_b_intoBin_65 : decode c_b_intoBin 65 = .ok (.ireturn, 1) := by decide +kernel
theorem d_b_leavesOnArrival_0 : decode c_b_leavesOnArrival 0 = .ok (.aload_n 0, 1) := by decide +kernel
theorem d_b_leavesOnArrival_1 : decode c_b_leavesOnArrival 1 = .ok (.getfield 19, 3) := by decide +kernel
theorem d_b_leavesOnArrival_4 : decode c_b_leavesOnArrival 4 = .ok (.getfield 232, 3) := by decide +kernel
theorem d_b_leavesOnArrival_7 : decode c_b_leavesOnArrival 7 = .ok (.iload_n 1, 1) := by decide +kernel
theorem d_b_leavesOnArrival_8 : decode c_b_leavesOnArrival 8 = .ok (.aaload, 1) := by decide +kernel
theorem d_b_leavesOnArrival_9 : decode c_b_leavesOnArrival 9 = .ok (.astore_n 2, 1) := by decide +kernel
theorem d_b_leavesOnArrival_10 : decode c_b_leavesOnArrival 10 = .ok (.aload_n 2, 1) := by decide +kernel
theorem d_b_leavesOnArrival_11 : decode c_b_leavesOnArrival 11 = .ok (.invokevirtual 257, 3) := by decide +kernel
theorem d_b_leavesOnArrival_14 : decode c_b_leavesOnArrival 14 = .ok (.bipush 60, 2) := by decide +kernel
theorem d_b_leavesOnArrival_16 : decode c_b_leavesOnArrival 16 = .ok (.if_icmp .ne 11, 3) := by decide +kernel
theorem d_b_leavesOnArrival_19 : decode c_b_leavesOnArrival 19 = .ok (.aload_n 0, 1) := by decide +kernel
theorem d_b_leavesOnArrival_20 : decode c_b_leavesOnArrival 20 = .ok (.aload_n 2, 1) := by decide +kernel
theorem d_b_leavesOnArrival_21 : decode c_b_leavesOnArrival 21 = .ok (.invokevirtual 260, 3) := by decide +kernel
theorem d_b_leavesOnArrival_24 : decode c_b_leavesOnArrival 24 = .ok (.goto 35, 3) := by decide +kernel
theorem d_b_leavesOnArrival_27 : decode c_b_leavesOnArrival 27 = .ok (.aload_n 2, 1) := by decide +kernel
theorem d_b_leavesOnArrival_28 : decode c_b_leavesOnArrival 28 = .ok (.getfield 216, 3) := by decide +kernel
theorem d_b_leavesOnArrival_31 : decode c_b_leavesOnArrival 31 = .ok (.bipush 105, 2) := by decide +kernel
theorem d_b_leavesOnArrival_33 : decode c_b_leavesOnArrival 33 = .ok (.if_icmp .ne 11, 3) := by decide +kernel
theorem d_b_leavesOnArrival_36 : decode c_b_leavesOnArrival 36 = .ok (.aload_n 0, 1) := by decide +kernel
theorem d_b_leavesOnArrival_37 : decode c_b_leavesOnArrival 37 = .ok (.aload_n 2, 1) := by decide +kernel
theorem d_b_leavesOnArrival_38 : decode c_b_leavesOnArrival 38 = .ok (.invokevirtual 264, 3) := by decide +kernel
theorem d_b_leavesOnArrival_41 : decode c_b_leavesOnArrival 41 = .ok (.goto 18, 3) := by decide +kernel
theorem d_b_leavesOnArrival_44 : decode c_b_leavesOnArrival 44 = .ok (.aload_n 2, 1) := by decide +kernel
theorem d_b_leavesOnArrival_45 : decode c_b_leavesOnArrival 45 = .ok (.invokevirtual 257, 3) := by decide +kernel
theorem d_b_leavesOnArrival_48 : decode c_b_leavesOnArrival 48 = .ok (.bipush 110, 2) := by decide +kernel
theorem d_b_leavesOnArrival_50 : decode c_b_leavesOnArrival 50 = .ok (.if_icmp .ne 9, 3) := by decide +kernel
theorem d_b_leavesOnArrival_53 : decode c_b_leavesOnArrival 53 = .ok (.aload_n 0, 1) := by decide +kernel
theorem d_b_leavesOnArrival_54 : decode c_b_leavesOnArrival 54 = .ok (.iload_n 1, 1) := by decide +kernel
theorem d_b_leavesOnArrival_55 : decode c_b_leavesOnArrival 55 = .ok (.invokevirtual 267, 3) := by decide +kernel
theorem d_b_leavesOnArrival_58 : decode c_b_leavesOnArrival 58 = .ok (.ireturn, 1) := by decide +kernel
theorem d_b_leavesOnArrival_59 : decode c_b_leavesOnArrival 59 = .ok (.iconst 0, 1) := by decide +kernel
theorem d_b_leavesOnArrival_60 : decode c_b_leavesOnArrival 60 = .ok (.ireturn, 1) := by decide +kernel
theorem d_b_stepForward_0 : decode c_b_stepForward 0 = .ok (.aload_n 0, 1) := by decide +kernel
theorem d_b_stepForward_1 : decode c_b_stepForward 1 = .ok (.getfield 19, 3) := by decide +kernel
theorem d_b_stepForward_4 : decode c_b_stepForward 4 = .ok (.invokevirtual 251, 3) := by decide +kernel
theorem d_b_stepForward_7 : decode c_b_stepForward 7 = .ok (.iconst 0, 1) := by decide +kernel
theorem d_b_stepForward_8 : decode c_b_stepForward 8 = .ok (.istore_n 1, 1) := by decide +kernel
theorem d_b_stepForward_9 : decode c_b_stepForward 9 = .ok (.aload_n 0, 1) := by decide +kernel
theorem d_b_stepForward_10 : decode c_b_stepForward 10 = .ok (.getfield 19, 3) := by decide +kernel
theorem d_b_stepForward_13 : decode c_b_stepForward 13 = .ok (.getfield 127, 3) := by decide +kernel
theorem d_b_stepForward_16 : decode c_b_stepForward 16 = .ok (.istore_n 2, 1) := by decide +kernel
theorem d_b_stepForward_17 : decode c_b_stepForward 17 = .ok (.iload_n 2, 1) := by decide +kernel
theorem d_b_stepForward_18 : decode c_b_stepForward 18 = .ok (.ifCond .le 30, 3) := by decide +kernel
theorem d_b_stepForward_21 : decode c_b_stepForward 21 = .ok (.aload_n 0, 1) := by decide +kernel
theorem d_b_stepForward_22 : decode c_b_stepForward 22 = .ok (.getfield 40, 3) := by decide +kernel
theorem d_b_stepForward_25 : decode c_b_stepForward 25 = .ok (.getfield 116, 3) := by decide +kernel
theorem d_b_stepForward_28 : decode c_b_stepForward 28 = .ok (.ifCond .eq 20, 3) := by decide +kernel
theorem d_b_stepForward_31 : decode c_b_stepForward 31 = .ok (.aload_n 0, 1) := by decide +kernel
theorem d_b_stepForward_32 : decode c_b_stepForward 32 = .ok (.iload_n 1, 1) := by decide +kernel
theorem d_b_stepForward_33 : decode c_b_stepForward 33 = .ok (.invokevirtual 254, 3) := by decide +kernel
theorem d_b_stepForward_36 : decode c_b_stepForward 36 = .ok (.ifCond .ne 6, 3) := by decide +kernel
theorem d_b_stepForward_39 : decode c_b_stepForward 39 = .ok (.iinc 1 1, 3) := by decide +kernel
theorem d_b_stepForward_42 : decode c_b_stepForward 42 = .ok (.iinc 2 (-1), 3) := by decide +kernel
theorem d_b_stepForward_45 : decode c_b_stepForward 45 = .ok (.goto (-28), 3) := by decide +kernel
theorem d_b_stepForward_48 : decode c_b_stepForward 48 = .ok (.return_, 1) := by decide +kernel
theorem d_b_forward_0 : decode c_b_forward 0 = .ok (.aload_n 0, 1) := by decide +kernel
theorem d_b_forward_1 : decode c_b_forward 1 = .ok (.invokevirtual 55, 3) := by decide +kernel
theorem d_b_forward_4 : decode c_b_forward 4 = .ok (.iload_n 1, 1) := by decide +kernel
theorem d_b_forward_5 : decode c_b_forward 5 = .ok (.iconst 0, 1) := by decide +kernel
theorem d_b_forward_6 : decode c_b_forward 6 = .ok (.sipush 300, 3) := by decide +kernel
theorem d_b_forward_9 : decode c_b_forward 9 = .ok (.invokestatic 66, 3) := by decide +kernel
theorem d_b_forward_12 : decode c_b_forward 12 = .ok (.invokestatic 62, 3) := by decide +kernel
theorem d_b_forward_15 : decode c_b_forward 15 = .ok (.iconst 0, 1) := by decide +kernel
theorem d_b_forward_16 : decode c_b_forward 16 = .ok (.istore_n 2, 1) := by decide +kernel
theorem d_b_forward_17 : decode c_b_forward 17 = .ok (.iload_n 2, 1) := by decide +kernel
theorem d_b_forward_18 : decode c_b_forward 18 = .ok (.iload_n 1, 1) := by decide +kernel
theorem d_b_forward_19 : decode c_b_forward 19 = .ok (.if_icmp .ge 33, 3) := by decide +kernel
theorem d_b_forward_22 : decode c_b_forward 22 = .ok (.aload_n 0, 1) := by decide +kernel
theorem d_b_forward_23 : decode c_b_forward 23 = .ok (.getfield 40, 3) := by decide +kernel
theorem d_b_forward_26 : decode c_b_forward 26 = .ok (.getfield 116, 3) := by decide +kernel
theorem d_b_forward_29 : decode c_b_forward 29 = .ok (.ifCond .eq 23, 3) := by decide +kernel
theorem d_b_forward_32 : decode c_b_forward 32 = .ok (.aload_n 0, 1) := by decide +kernel
theorem d_b_forward_33 : decode c_b_forward 33 = .ok (.getfield 19, 3) := by decide +kernel
theorem d_b_forward_36 : decode c_b_forward 36 = .ok (.invokevirtual 120, 3) := by decide +kernel
theorem d_b_forward_39 : decode c_b_forward 39 = .ok (.ifCond .ne 13, 3) := by decide +kernel
theorem d_b_forward_42 : decode c_b_forward 42 = .ok (.aload_n 0, 1) := by decide +kernel
theorem d_b_forward_43 : decode c_b_forward 43 = .ok (.invokevirtual 124, 3) := by decide +kernel
theorem d_b_forward_46 : decode c_b_forward 46 = .ok (.iinc 2 1, 3) := by decide +kernel
theorem d_b_forward_49 : decode c_b_forward 49 = .ok (.goto (-32), 3) := by decide +kernel
theorem d_b_forward_52 : decode c_b_forward 52 = .ok (.iload_n 2, 1) := by decide +kernel
theorem d_b_forward_53 : decode c_b_forward 53 = .ok (.ireturn, 1) := by decide +kernel
theorem d_be_moveDownAt_0 : decode c_be_moveDownAt 0 = .ok (.aload_n 0, 1) := by decide +kernel
theorem d_be_moveDownAt_1 : decode c_be_moveDownAt 1 = .ok (.getfield 11, 3) := by decide +kernel
theorem d_be_moveDownAt_4 : decode c_be_moveDownAt 4 = .ok (.iload_n 1, 1) := by decide +kernel
theorem d_be_moveDownAt_5 : decode c_be_moveDownAt 5 = .ok (.aaload, 1) := by decide +kernel
theorem d_be_moveDownAt_6 : decode c_be_moveDownAt 6 = .ok (.astore_n 2, 1) := by decide +kernel
theorem d_be_moveDownAt_7 : decode c_be_moveDownAt 7 = .ok (.aload_n 2, 1) := by decide +kernel
theorem d_be_moveDownAt_8 : decode c_be_moveDownAt 8 = .ok (.dup, 1) := by decide +kernel
theorem d_be_moveDownAt_9 : decode c_be_moveDownAt 9 = .ok (.getfield 40, 3) := by decide +kernel
theorem d_be_moveDownAt_12 : decode c_be_moveDownAt 12 = .ok (.iconst 1, 1) := by decide +kernel
theorem d_be_moveDownAt_13 : decode c_be_moveDownAt 13 = .ok (.isub, 1) := by decide +kernel
theorem d_be_moveDownAt_14 : decode c_be_moveDownAt 14 = .ok (.putfield 40, 3) := by decide +kernel
theorem d_be_moveDownAt_17 : decode c_be_moveDownAt 17 = .ok (.aload_n 2, 1) := by decide +kernel
theorem d_be_moveDownAt_18 : decode c_be_moveDownAt 18 = .ok (.invokevirtual 22, 3) := by decide +kernel
theorem d_be_moveDownAt_21 : decode c_be_moveDownAt 21 = .ok (.bipush 59, 2) := by decide +kernel
theorem d_be_moveDownAt_23 : decode c_be_moveDownAt 23 = .ok (.if_icmp .ne 7, 3) := by decide +kernel
theorem d_be_moveDownAt_26 : decode c_be_moveDownAt 26 = .ok (.aload_n 2, 1) := by decide +kernel
theorem d_be_moveDownAt_27 : decode c_be_moveDownAt 27 = .ok (.invokevirtual 50, 3) := by decide +kernel
theorem d_be_moveDownAt_30 : decode c_be_moveDownAt 30 = .ok (.aload_n 2, 1) := by decide +kernel
theorem d_be_moveDownAt_31 : decode c_be_moveDownAt 31 = .ok (.getfield 40, 3) := by decide +kernel
theorem d_be_moveDownAt_34 : decode c_be_moveDownAt 34 = .ok (.ifCond .ge 8, 3) := by decide +kernel
theorem d_be_moveDownAt_37 : decode c_be_moveDownAt 37 = .ok (.aload_n 0, 1) := by decide +kernel
theorem d_be_moveDownAt_38 : decode c_be_moveDownAt 38 = .ok (.iload_n 1, 1) := by decide +kernel
theorem d_be_moveDownAt_39 : decode c_be_moveDownAt 39 = .ok (.invokevirtual 53, 3) := by decide +kernel
theorem d_be_moveDownAt_42 : decode c_be_moveDownAt 42 = .ok (.return_, 1) := by decide +kernel
theorem d_be_moveDown_0 : decode c_be_moveDown 0 = .ok (.iconst 0, 1) := by decide +kernel
theorem d_be_moveDown_1 : decode c_be_moveDown 1 = .ok (.istore_n 1, 1) := by decide +kernel
theorem d_be_moveDown_2 : decode c_be_moveDown 2 = .ok (.aload_n 0, 1) := by decide +kernel
theorem d_be_moveDown_3 : decode c_be_moveDown 3 = .ok (.getfield 18, 3) := by decide +kernel
theorem d_be_moveDown_6 : decode c_be_moveDown 6 = .ok (.iconst 1, 1) := by decide +kernel
theorem d_be_moveDown_7 : decode c_be_moveDown 7 = .ok (.isub, 1) := by decide +kernel
theorem d_be_moveDown_8 : decode c_be_moveDown 8 = .ok (.istore_n 2, 1) := by decide +kernel
theorem d_be_moveDown_9 : decode c_be_moveDown 9 = .ok (.iload_n 2, 1) := by decide +kernel
theorem d_be_moveDown_10 : decode c_be_moveDown 10 = .ok (.ifCond .lt 30, 3) := by decide +kernel
theorem d_be_moveDown_13 : decode c_be_moveDown 13 = .ok (.aload_n 0, 1) := by decide +kernel
theorem d_be_moveDown_14 : decode c_be_moveDown 14 = .ok (.getfield 11, 3) := by decide +kernel
theorem d_be_moveDown_17 : decode c_be_moveDown 17 = .ok (.iload_n 2, 1) := by decide +kernel
theorem d_be_moveDown_18 : decode c_be_moveDown 18 = .ok (.aaload, 1) := by decide +kernel
theorem d_be_moveDown_19 : decode c_be_moveDown 19 = .ok (.getfield 40, 3) := by decide +kernel
theorem d_be_moveDown_22 : decode c_be_moveDown 22 = .ok (.bipush 105, 2) := by decide +kernel
theorem d_be_moveDown_24 : decode c_be_moveDown 24 = .ok (.if_icmp .ge 10, 3) := by decide +kernel
theorem d_be_moveDown_27 : decode c_be_moveDown 27 = .ok (.iconst 1, 1) := by decide +kernel
theorem d_be_moveDown_28 : decode c_be_moveDown 28 = .ok (.istore_n 1, 1) := by decide +kernel
theorem d_be_moveDown_29 : decode c_be_moveDown 29 = .ok (.aload_n 0, 1) := by decide +kernel
theorem d_be_moveDown_30 : decode c_be_moveDown 30 = .ok (.iload_n 2, 1) := by decide +kernel
theorem d_be_moveDown_31 : decode c_be_moveDown 31 = .ok (.invokevirtual 46, 3) := by decide +kernel
theorem d_be_moveDown_34 : decode c_be_moveDown 34 = .ok (.iinc 2 (-1), 3) := by decide +kernel
theorem d_be_moveDown_37 : decode c_be_moveDown 37 = .ok (.goto (-28), 3) := by decide +kernel
theorem d_be_moveDown_40 : decode c_be_moveDown 40 = .ok (.iload_n 1, 1) := by decide +kernel
theorem d_be_moveDown_41 : decode c_be_moveDown 41 = .ok (.ireturn, 1) := by decide +kernel
theorem d_b_back_0 : decode c_b_back 0 = .ok (.aload_n 0, 1) := by decide +kernel
theorem d_b_back_1 : decode c_b_back 1 = .ok (.invokevirtual 55, 3) := by decide +kernel
theorem d_b_back_4 : decode c_b_back 4 = .ok (.iload_n 1, 1) := by decide +kernel
theorem d_b_back_5 : decode c_b_back 5 = .ok (.iconst 0, 1) := by decide +kernel
theorem d_b_back_6 : decode c_b_back 6 = .ok (.sipush 300, 3) := by decide +kernel
theorem d_b_back_9 : decode c_b_back 9 = .ok (.invokestatic 66, 3) := by decide +kernel
theorem d_b_back_12 : decode c_b_back 12 = .ok (.invokestatic 62, 3) := by decide +kernel
theorem d_b_back_15 : decode c_b_back 15 = .ok (.aload_n 0, 1) := by decide +kernel
theorem d_b_back_16 : decode c_b_back 16 = .ok (.getfield 19, 3) := by decide +kernel
theorem d_b_back_19 : decode c_b_back 19 = .ok (.getfield 127, 3) := by decide +kernel
theorem d_b_back_22 : decode c_b_back 22 = .ok (.istore_n 2, 1) := by decide +kernel
theorem d_b_back_23 : decode c_b_back 23 = .ok (.iconst 0, 1) := by decide +kernel
theorem d_b_back_24 : decode c_b_back 24 = .ok (.istore_n 3, 1) := by decide +kernel
theorem d_b_back_25 : decode c_b_back 25 = .ok (.iload_n 3, 1) := by decide +kernel
theorem d_b_back_26 : decode c_b_back 26 = .ok (.iload_n 1, 1) := by decide +kernel
theorem d_b_back_27 : decode c_b_back 27 = .ok (.if_icmp .ge 29, 3) := by decide +kernel
theorem d_b_back_30 : decode c_b_back 30 = .ok (.aload_n 0, 1) := by decide +kernel
theorem d_b_back_31 : decode c_b_back 31 = .ok (.getfield 19, 3) := by decide +kernel
theorem d_b_back_34 : decode c_b_back 34 = .ok (.invokevirtual 130, 3) := by decide +kernel
theorem d_b_back_37 : decode c_b_back 37 = .ok (.ifCond .eq 13, 3) := by decide +kernel
theorem d_b_back_40 : decode c_b_back 40 = .ok (.aload_n 0, 1) := by decide +kernel
theorem d_b_back_41 : decode c_b_back 41 = .ok (.dup, 1) := by decide +kernel
theorem d_b_back_42 : decode c_b_back 42 = .ok (.getfield 133, 3) := by decide +kernel
theorem d_b_back_45 : decode c_b_back 45 = .ok (.iconst 1, 1) := by decide +kernel
theorem d_b_back_46 : decode c_b_back 46 = .ok (.iadd, 1) := by decide +kernel
theorem d_b_back_47 : decode c_b_back 47 = .ok (.putfield 133, 3) := by decide +kernel
theorem d_b_back_50 : decode c_b_back 50 = .ok (.iinc 3 1, 3) := by decide +kernel
theorem d_b_back_53 : decode c_b_back 53 = .ok (.goto (-28), 3) := by decide +kernel
theorem d_b_back_56 : decode c_b_back 56 = .ok (.iload_n 2, 1) := by decide +kernel
theorem d_b_back_57 : decode c_b_back 57 = .ok (.aload_n 0, 1) := by decide +kernel
theorem d_b_back_58 : decode c_b_back 58 = .ok (.getfield 19, 3) := by decide +kernel
theorem d_b_back_61 : decode c_b_back 61 = .ok (.getfield 127, 3) := by decide +kernel
theorem d_b_back_64 : decode c_b_back 64 = .ok (.isub, 1) := by decide +kernel
theorem d_b_back_65 : decode c_b_back 65 = .ok (.ireturn, 1) := by decide +kernel
theorem d_vo_keep_0 : decode c_vo_keep 0 = .ok (.aload_n 0, 1) := by decide +kernel
theorem d_vo_keep_1 : decode c_vo_keep 1 = .ok (.getfield 9, 3) := by decide +kernel
theorem d_vo_keep_4 : decode c_vo_keep 4 = .ok (.aload_n 0, 1) := by decide +kernel
theorem d_vo_keep_5 : decode c_vo_keep 5 = .ok (.getfield 22, 3) := by decide +kernel
theorem d_vo_keep_8 : decode c_vo_keep 8 = .ok (.iload_n 1, 1) := by decide +kernel
theorem d_vo_keep_9 : decode c_vo_keep 9 = .ok (.iastore, 1) := by decide +kernel
theorem d_vo_keep_10 : decode c_vo_keep 10 = .ok (.aload_n 0, 1) := by decide +kernel
theorem d_vo_keep_11 : decode c_vo_keep 11 = .ok (.getfield 15, 3) := by decide +kernel
theorem d_vo_keep_14 : decode c_vo_keep 14 = .ok (.aload_n 0, 1) := by decide +kernel
theorem d_vo_keep_15 : decode c_vo_keep 15 = .ok (.getfield 22, 3) := by decide +kernel
theorem d_vo_keep_18 : decode c_vo_keep 18 = .ok (.iload_n 2, 1) := by decide +kernel
theorem d_vo_keep_19 : decode c_vo_keep 19 = .ok (.iastore, 1) := by decide +kernel
theorem d_vo_keep_20 : decode c_vo_keep 20 = .ok (.aload_n 0, 1) := by decide +kernel
theorem d_vo_keep_21 : decode c_vo_keep 21 = .ok (.getfield 18, 3) := by decide +kernel
theorem d_vo_keep_24 : decode c_vo_keep 24 = .ok (.aload_n 0, 1) := by decide +kernel
theorem d_vo_keep_25 : decode c_vo_keep 25 = .ok (.getfield 22, 3) := by decide +kernel
theorem d_vo_keep_28 : decode c_vo_keep 28 = .ok (.iload_n 3, 1) := by decide +kernel
theorem d_vo_keep_29 : decode c_vo_keep 29 = .ok (.bastore, 1) := by decide +kernel
theorem d_vo_keep_30 : decode c_vo_keep 30 = .ok (.aload_n 0, 1) := by decide +kernel
theorem d_vo_keep_31 : decode c_vo_keep 31 = .ok (.dup, 1) := by decide +kernel
theorem d_vo_keep_32 : decode c_vo_keep 32 = .ok (.getfield 22, 3) := by decide +kernel
theorem d_vo_keep_35 : decode c_vo_keep 35 = .ok (.iconst 1, 1) := by decide +kernel
theorem d_vo_keep_36 : decode c_vo_keep 36 = .ok (.iadd, 1) := by decide +kernel
theorem d_vo_keep_37 : decode c_vo_keep 37 = .ok (.putfield 22, 3) := by decide +kernel
theorem d_vo_keep_40 : decode c_vo_keep 40 = .ok (.return_, 1) := by decide +kernel
theorem d_vo_issue_0 : decode c_vo_issue 0 = .ok (.aload_n 0, 1) := by decide +kernel
theorem d_vo_issue_1 : decode c_vo_issue 1 = .ok (.dup, 1) := by decide +kernel
theorem d_vo_issue_2 : decode c_vo_issue 2 = .ok (.getfield 26, 3) := by decide +kernel
theorem d_vo_issue_5 : decode c_vo_issue 5 = .ok (.iconst 1, 1) := by decide +kernel
theorem d_vo_issue_6 : decode c_vo_issue 6 = .ok (.iadd, 1) := by decide +kernel
theorem d_vo_issue_7 : decode c_vo_issue 7 = .ok (.putfield 26, 3) := by decide +kernel
theorem d_vo_issue_10 : decode c_vo_issue 10 = .ok (.aload_n 0, 1) := by decide +kernel
theorem d_vo_issue_11 : decode c_vo_issue 11 = .ok (.aload_n 0, 1) := by decide +kernel
theorem d_vo_issue_12 : decode c_vo_issue 12 = .ok (.getfield 26, 3) := by decide +kernel
theorem d_vo_issue_15 : decode c_vo_issue 15 = .ok (.iload_n 1, 1) := by decide +kernel
theorem d_vo_issue_16 : decode c_vo_issue 16 = .ok (.iconst 0, 1) := by decide +kernel
theorem d_vo_issue_17 : decode c_vo_issue 17 = .ok (.invokevirtual 29, 3) := by decide +kernel
theorem d_vo_issue_20 : decode c_vo_issue 20 = .ok (.aload_n 0, 1) := by decide +kernel
theorem d_vo_issue_21 : decode c_vo_issue 21 = .ok (.dup, 1) := by decide +kernel
theorem d_vo_issue_22 : decode c_vo_issue 22 = .ok (.getfield 33, 3) := by decide +kernel
theorem d_vo_issue_25 : decode c_vo_issue 25 = .ok (.iload_n 1, 1) := by decide +kernel
theorem d_vo_issue_26 : decode c_vo_issue 26 = .ok (.iadd, 1) := by decide +kernel
theorem d_vo_issue_27 : decode c_vo_issue 27 = .ok (.putfield 33, 3) := by decide +kernel
theorem d_vo_issue_30 : decode c_vo_issue 30 = .ok (.aload_n 0, 1) := by decide +kernel
theorem d_vo_issue_31 : decode c_vo_issue 31 = .ok (.getfield 26, 3) := by decide +kernel
theorem d_vo_issue_34 : decode c_vo_issue 34 = .ok (.ireturn, 1) := by decide +kernel
theorem d_b_voucher_0 : decode c_b_voucher 0 = .ok (.aload_n 0, 1) := by decide +kernel
theorem d_b_voucher_1 : decode c_b_voucher 1 = .ok (.invokevirtual 55, 3) := by decide +kernel
theorem d_b_voucher_4 : decode c_b_voucher 4 = .ok (.aload_n 0, 1) := by decide +kernel
theorem d_b_voucher_5 : decode c_b_voucher 5 = .ok (.getfield 136, 3) := by decide +kernel
theorem d_b_voucher_8 : decode c_b_voucher 8 = .ok (.ifCond .eq 23, 3) := by decide +kernel
theorem d_b_voucher_11 : decode c_b_voucher 11 = .ok (.aload_n 0, 1) := by decide +kernel
theorem d_b_voucher_12 : decode c_b_voucher 12 = .ok (.getfield 33, 3) := by decide +kernel
theorem d_b_voucher_15 : decode c_b_voucher 15 = .ok (.invokevirtual 139, 3) := by decide +kernel
theorem d_b_voucher_18 : decode c_b_voucher 18 = .ok (.ifCond .ne 13, 3) := by decide +kernel
theorem d_b_voucher_21 : decode c_b_voucher 21 = .ok (.aload_n 0, 1) := by decide +kernel
theorem d_b_voucher_22 : decode c_b_voucher 22 = .ok (.getfield 40, 3) := by decide +kernel
theorem d_b_voucher_25 : decode c_b_voucher 25 = .ok (.invokevirtual 142, 3) := by decide +kernel
theorem d_b_voucher_28 : decode c_b_voucher 28 = .ok (.ifCond .ne 5, 3) := by decide +kernel
theorem d_b_voucher_31 : decode c_b_voucher 31 = .ok (.iconst 0, 1) := by decide +kernel
theorem d_b_voucher_32 : decode c_b_voucher 32 = .ok (.ireturn, 1) := by decide +kernel
theorem d_b_voucher_33 : decode c_b_voucher 33 = .ok (.aload_n 0, 1) := by decide +kernel
theorem d_b_voucher_34 : decode c_b_voucher 34 = .ok (.getfield 33, 3) := by decide +kernel
theorem d_b_voucher_37 : decode c_b_voucher 37 = .ok (.aload_n 0, 1) := by decide +kernel
theorem d_b_voucher_38 : decode c_b_voucher 38 = .ok (.getfield 136, 3) := by decide +kernel
theorem d_b_voucher_41 : decode c_b_voucher 41 = .ok (.invokevirtual 145, 3) := by decide +kernel
theorem d_b_voucher_44 : decode c_b_voucher 44 = .ok (.istore_n 1, 1) := by decide +kernel
theorem d_b_voucher_45 : decode c_b_voucher 45 = .ok (.aload_n 0, 1) := by decide +kernel
theorem d_b_voucher_46 : decode c_b_voucher 46 = .ok (.iconst 0, 1) := by decide +kernel
theorem d_b_voucher_47 : decode c_b_voucher 47 = .ok (.putfield 136, 3) := by decide +kernel
theorem d_b_voucher_50 : decode c_b_voucher 50 = .ok (.iload_n 1, 1) := by decide +kernel
theorem d_b_voucher_51 : decode c_b_voucher 51 = .ok (.ireturn, 1) := by decide +kernel
theorem d_b_give_0 : decode c_b_give 0 = .ok (.aload_n 0, 1) := by decide +kernel
theorem d_b_give_1 : decode c_b_give 1 = .ok (.invokevirtual 55, 3) := by decide +kernel
theorem d_b_give_4 : decode c_b_give 4 = .ok (.aload_n 0, 1) := by decide +kernel
theorem d_b_give_5 : decode c_b_give 5 = .ok (.getfield 136, 3) := by decide +kernel
theorem d_b_give_8 : decode c_b_give 8 = .ok (.ifCond .eq 13, 3) := by decide +kernel
theorem d_b_give_11 : decode c_b_give 11 = .ok (.aload_n 0, 1) := by decide +kernel
theorem d_b_give_12 : decode c_b_give 12 = .ok (.getfield 40, 3) := by decide +kernel
theorem d_b_give_15 : decode c_b_give 15 = .ok (.invokevirtual 142, 3) := by decide +kernel
theorem d_b_give_18 : decode c_b_give 18 = .ok (.ifCond .ne 5, 3) := by decide +kernel
theorem d_b_give_21 : decode c_b_give 21 = .ok (.iconst 0, 1) := by decide +kernel
theorem d_b_give_22 : decode c_b_give 22 = .ok (.ireturn, 1) := by decide +kernel
theorem d_b_give_23 : decode c_b_give 23 = .ok (.aload_n 0, 1) := by decide +kernel
theorem d_b_give_24 : decode c_b_give 24 = .ok (.getfield 136, 3) := by decide +kernel
theorem d_b_give_27 : decode c_b_give 27 = .ok (.istore_n 1, 1) := by decide +kernel
theorem d_b_give_28 : decode c_b_give 28 = .ok (.aload_n 0, 1) := by decide +kernel
theorem d_b_give_29 : decode c_b_give 29 = .ok (.dup, 1) := by decide +kernel
theorem d_b_give_30 : decode c_b_give 30 = .ok (.getfield 148, 3) := by decide +kernel
theorem d_b_give_33 : decode c_b_give 33 = .ok (.iload_n 1, 1) := by decide +kernel
theorem d_b_give_34 : decode c_b_give 34 = .ok (.iadd, 1) := by decide +kernel
theorem d_b_give_35 : decode c_b_give 35 = .ok (.putfield 148, 3) := by decide +kernel
theorem d_b_give_38 : decode c_b_give 38 = .ok (.aload_n 0, 1) := by decide +kernel
theorem d_b_give_39 : decode c_b_give 39 = .ok (.iconst 0, 1) := by decide +kernel
theorem d_b_give_40 : decode c_b_give 40 = .ok (.putfield 136, 3) := by decide +kernel
theorem d_b_give_43 : decode c_b_give 43 = .ok (.iload_n 1, 1) := by decide +kernel
theorem d_b_give_44 : decode c_b_give 44 = .ok (.ireturn, 1) := by decide +kernel
theorem d_vo_placeOf_0 : decode c_vo_placeOf 0 = .ok (.iconst 0, 1) := by decide +kernel
theorem d_vo_placeOf_1 : decode c_vo_placeOf 1 = .ok (.istore_n 2, 1) := by decide +kernel
theorem d_vo_placeOf_2 : decode c_vo_placeOf 2 = .ok (.iload_n 2, 1) := by decide +kernel
theorem d_vo_placeOf_3 : decode c_vo_placeOf 3 = .ok (.aload_n 0, 1) := by decide +kernel
theorem d_vo_placeOf_4 : decode c_vo_placeOf 4 = .ok (.getfield 22, 3) := by decide +kernel
theorem d_vo_placeOf_7 : decode c_vo_placeOf 7 = .ok (.if_icmp .ge 21, 3) := by decide +kernel
theorem d_vo_placeOf_10 : decode c_vo_placeOf 10 = .ok (.aload_n 0, 1) := by decide +kernel
theorem d_vo_placeOf_11 : decode c_vo_placeOf 11 = .ok (.getfield 9, 3) := by decide +kernel
theorem d_vo_placeOf_14 : decode c_vo_placeOf 14 = .ok (.iload_n 2, 1) := by decide +kernel
theorem d_vo_placeOf_15 : decode c_vo_placeOf 15 = .ok (.iaload, 1) := by decide +kernel
theorem d_vo_placeOf_16 : decode c_vo_placeOf 16 = .ok (.iload_n 1, 1) := by decide +kernel
theorem d_vo_placeOf_17 : decode c_vo_placeOf 17 = .ok (.if_icmp .ne 5, 3) := by decide +kernel
theorem d_vo_placeOf_20 : decode c_vo_placeOf 20 = .ok (.iload_n 2, 1) := by decide +kernel
theorem d_vo_placeOf_21 : decode c_vo_placeOf 21 = .ok (.ireturn, 1) := by decide +kernel
theorem d_vo_placeOf_22 : decode c_vo_placeOf 22 = .ok (.iinc 2 1, 3) := by decide +kernel
theorem d_vo_placeOf_25 : decode c_vo_placeOf 25 = .ok (.goto (-23), 3) := by decide +kernel
theorem d_vo_placeOf_28 : decode c_vo_placeOf 28 = .ok (.iconst (-1), 1) := by decide +kernel
theorem d_vo_placeOf_29 : decode c_vo_placeOf 29 = .ok (.ireturn, 1) := by decide +kernel
theorem d_vo_payOut_0 : decode c_vo_payOut 0 = .ok (.aload_n 0, 1) := by decide +kernel
theorem d_vo_payOut_1 : decode c_vo_payOut 1 = .ok (.getfield 18, 3) := by decide +kernel
theorem d_vo_payOut_4 : decode c_vo_payOut 4 = .ok (.iload_n 1, 1) := by decide +kernel
theorem d_vo_payOut_5 : decode c_vo_payOut 5 = .ok (.baload, 1) := by decide +kernel
theorem d_vo_payOut_6 : decode c_vo_payOut 6 = .ok (.ifCond .eq 5, 3) := by decide +kernel
theorem d_vo_payOut_9 : decode c_vo_payOut 9 = .ok (.iconst 0, 1) := by decide +kernel
theorem d_vo_payOut_10 : decode c_vo_payOut 10 = .ok (.ireturn, 1) := by decide +kernel
theorem d_vo_payOut_11 : decode c_vo_payOut 11 = .ok (.aload_n 0, 1) := by decide +kernel
theorem d_vo_payOut_12 : decode c_vo_payOut 12 = .ok (.getfield 18, 3) := by decide +kernel
theorem d_vo_payOut_15 : decode c_vo_payOut 15 = .ok (.iload_n 1, 1) := by decide +kernel
theorem d_vo_payOut_16 : decode c_vo_payOut 16 = .ok (.iconst 1, 1) := by decide +kernel
theorem d_vo_payOut_17 : decode c_vo_payOut 17 = .ok (.bastore, 1) := by decide +kernel
theorem d_vo_payOut_18 : decode c_vo_payOut 18 = .ok (.aload_n 0, 1) := by decide +kernel
theorem d_vo_payOut_19 : decode c_vo_payOut 19 = .ok (.getfield 15, 3) := by decide +kernel
theorem d_vo_payOut_22 : decode c_vo_payOut 22 = .ok (.iload_n 1, 1) := by decide +kernel
theorem d_vo_payOut_23 : decode c_vo_payOut 23 = .ok (.iaload, 1) := by decide +kernel
theorem d_vo_payOut_24 : decode c_vo_payOut 24 = .ok (.ireturn, 1) := by decide +kernel
theorem d_b_redeem_0 : decode c_b_redeem 0 = .ok (.aload_n 0, 1) := by decide +kernel
theorem d_b_redeem_1 : decode c_b_redeem 1 = .ok (.invokevirtual 55, 3) := by decide +kernel
theorem d_b_redeem_4 : decode c_b_redeem 4 = .ok (.aload_n 0, 1) := by decide +kernel
theorem d_b_redeem_5 : decode c_b_redeem 5 = .ok (.getfield 33, 3) := by decide +kernel
theorem d_b_redeem_8 : decode c_b_redeem 8 = .ok (.iload_n 1, 1) := by decide +kernel
theorem d_b_redeem_9 : decode c_b_redeem 9 = .ok (.invokevirtual 151, 3) := by decide +kernel
theorem d_b_redeem_12 : decode c_b_redeem 12 = .ok (.istore_n 2, 1) := by decide +kernel
theorem d_b_redeem_13 : decode c_b_redeem 13 = .ok (.iload_n 2, 1) := by decide +kernel
theorem d_b_redeem_14 : decode c_b_redeem 14 = .ok (.aload_n 0, 1) := by decide +kernel
theorem d_b_redeem_15 : decode c_b_redeem 15 = .ok (.getfield 33, 3) := by decide +kernel
theorem d_b_redeem_18 : decode c_b_redeem 18 = .ok (.getfield 154, 3) := by decide +kernel
theorem d_b_redeem_21 : decode c_b_redeem 21 = .ok (.invokestatic 58, 3) := by decide +kernel
theorem d_b_redeem_24 : decode c_b_redeem 24 = .ok (.invokestatic 62, 3) := by decide +kernel
theorem d_b_redeem_27 : decode c_b_redeem 27 = .ok (.aload_n 0, 1) := by decide +kernel
theorem d_b_redeem_28 : decode c_b_redeem 28 = .ok (.getfield 33, 3) := by decide +kernel
theorem d_b_redeem_31 : decode c_b_redeem 31 = .ok (.iload_n 2, 1) := by decide +kernel
theorem d_b_redeem_32 : decode c_b_redeem 32 = .ok (.invokevirtual 157, 3) := by decide +kernel
theorem d_b_redeem_35 : decode c_b_redeem 35 = .ok (.ireturn, 1) := by decide +kernel
theorem d_vo_forgetRedeemed_0 : decode c_vo_forgetRedeemed 0 = .ok (.aload_n 0, 1) := by decide +kernel
theorem d_vo_forgetRedeemed_1 : decode c_vo_forgetRedeemed 1 = .ok (.getfield 22, 3) := by decide +kernel
theorem d_vo_forgetRedeemed_4 : decode c_vo_forgetRedeemed 4 = .ok (.istore_n 1, 1) := by decide +kernel
theorem d_vo_forgetRedeemed_5 : decode c_vo_forgetRedeemed 5 = .ok (.aload_n 0, 1) := by decide +kernel
theorem d_vo_forgetRedeemed_6 : decode c_vo_forgetRedeemed 6 = .ok (.iconst 0, 1) := by decide +kernel
theorem d_vo_forgetRedeemed_7 : decode c_vo_forgetRedeemed 7 = .ok (.putfield 22, 3) := by decide +kernel
theorem d_vo_forgetRedeemed_10 : decode c_vo_forgetRedeemed 10 = .ok (.iconst 0, 1) := by decide +kernel
theorem d_vo_forgetRedeemed_11 : decode c_vo_forgetRedeemed 11 = .ok (.istore_n 2, 1) := by decide +kernel
theorem d_vo_forgetRedeemed_12 : decode c_vo_forgetRedeemed 12 = .ok (.iload_n 2, 1) := by decide +kernel
theorem d_vo_forgetRedeemed_13 : decode c_vo_forgetRedeemed 13 = .ok (.iload_n 1, 1) := by decide +kernel
theorem d_vo_forgetRedeemed_14 : decode c_vo_forgetRedeemed 14 = .ok (.if_icmp .ge 35, 3) := by decide +kernel
theorem d_vo_forgetRedeemed_17 : decode c_vo_forgetRedeemed 17 = .ok (.aload_n 0, 1) := by decide +kernel
theorem d_vo_forgetRedeemed_18 : decode c_vo_forgetRedeemed 18 = .ok (.getfield 18, 3) := by decide +kernel
theorem d_vo_forgetRedeemed_21 : decode c_vo_forgetRedeemed 21 = .ok (.iload_n 2, 1) := by decide +kernel
theorem d_vo_forgetRedeemed_22 : decode c_vo_forgetRedeemed 22 = .ok (.baload, 1) := by decide +kernel
theorem d_vo_forgetRedeemed_23 : decode c_vo_forgetRedeemed 23 = .ok (.ifCond .ne 20, 3) := by decide +kernel
theorem d_vo_forgetRedeemed_26 : decode c_vo_forgetRedeemed 26 = .ok (.aload_n 0, 1) := by decide +kernel
theorem d_vo_forgetRedeemed_27 : decode c_vo_forgetRedeemed 27 = .ok (.aload_n 0, 1) := by decide +kernel
theorem d_vo_forgetRedeemed_28 : decode c_vo_forgetRedeemed 28 = .ok (.getfield 9, 3) := by decide +kernel
theorem d_vo_forgetRedeemed_31 : decode c_vo_forgetRedeemed 31 = .ok (.iload_n 2, 1) := by decide +kernel
theorem d_vo_forgetRedeemed_32 : decode c_vo_forgetRedeemed 32 = .ok (.iaload, 1) := by decide +kernel
theorem d_vo_forgetRedeemed_33 : decode c_vo_forgetRedeemed 33 = .ok (.aload_n 0, 1) := by decide +kernel
theorem d_vo_forgetRedeemed_34 : decode c_vo_forgetRedeemed 34 = .ok (.getfield 15, 3) := by decide +kernel
theorem d_vo_forgetRedeemed_37 : decode c_vo_forgetRedeemed 37 = .ok (.iload_n 2, 1) := by decide +kernel
theorem d_vo_forgetRedeemed_38 : decode c_vo_forgetRedeemed 38 = .ok (.iaload, 1) := by decide +kernel
theorem d_vo_forgetRedeemed_39 : decode c_vo_forgetRedeemed 39 = .ok (.iconst 0, 1) := by decide +kernel
theorem d_vo_forgetRedeemed_40 : decode c_vo_forgetRedeemed 40 = .ok (.invokevirtual 29, 3) := by decide +kernel
theorem d_vo_forgetRedeemed_43 : decode c_vo_forgetRedeemed 43 = .ok (.iinc 2 1, 3) := by decide +kernel
theorem d_vo_forgetRedeemed_46 : decode c_vo_forgetRedeemed 46 = .ok (.goto (-34), 3) := by decide +kernel
theorem d_vo_forgetRedeemed_49 : decode c_vo_forgetRedeemed 49 = .ok (.iload_n 1, 1) := by decide +kernel
theorem d_vo_forgetRedeemed_50 : decode c_vo_forgetRedeemed 50 = .ok (.aload_n 0, 1) := by decide +kernel
theorem d_vo_forgetRedeemed_51 : decode c_vo_forgetRedeemed 51 = .ok (.getfield 22, 3) := by decide +kernel
theorem d_vo_forgetRedeemed_54 : decode c_vo_forgetRedeemed 54 = .ok (.isub, 1) := by decide +kernel
theorem d_vo_forgetRedeemed_55 : decode c_vo_forgetRedeemed 55 = .ok (.ireturn, 1) := by decide +kernel
theorem d_b_clear_0 : decode c_b_clear 0 = .ok (.aload_n 0, 1) := by decide +kernel
theorem d_b_clear_1 : decode c_b_clear 1 = .ok (.invokevirtual 55, 3) := by decide +kernel
theorem d_b_clear_4 : decode c_b_clear 4 = .ok (.aload_n 0, 1) := by decide +kernel
theorem d_b_clear_5 : decode c_b_clear 5 = .ok (.getfield 33, 3) := by decide +kernel
theorem d_b_clear_8 : decode c_b_clear 8 = .ok (.invokevirtual 160, 3) := by decide +kernel
theorem d_b_clear_11 : decode c_b_clear 11 = .ok (.ireturn, 1) := by decide +kernel
theorem d_b_empty_0 : decode c_b_empty 0 = .ok (.aload_n 0, 1) := by decide +kernel
theorem d_b_empty_1 : decode c_b_empty 1 = .ok (.invokevirtual 55, 3) := by decide +kernel
theorem d_b_empty_4 : decode c_b_empty 4 = .ok (.iload_n 1, 1) := by decide +kernel
theorem d_b_empty_5 : decode c_b_empty 5 = .ok (.iconst 3, 1) := by decide +kernel
theorem d_b_empty_6 : decode c_b_empty 6 = .ok (.invokestatic 58, 3) := by decide +kernel
theorem d_b_empty_9 : decode c_b_empty 9 = .ok (.invokestatic 62, 3) := by decide +kernel
theorem d_b_empty_12 : decode c_b_empty 12 = .ok (.iload_n 2, 1) := by decide +kernel
theorem d_b_empty_13 : decode c_b_empty 13 = .ok (.iconst 0, 1) := by decide +kernel
theorem d_b_empty_14 : decode c_b_empty 14 = .ok (.sipush 200, 3) := by decide +kernel
theorem d_b_empty_17 : decode c_b_empty 17 = .ok (.invokestatic 66, 3) := by decide +kernel
theorem d_b_empty_20 : decode c_b_empty 20 = .ok (.invokestatic 62, 3) := by decide +kernel
theorem d_b_empty_23 : decode c_b_empty 23 = .ok (.aload_n 0, 1) := by decide +kernel
theorem d_b_empty_24 : decode c_b_empty 24 = .ok (.getfield 26, 3) := by decide +kernel
theorem d_b_empty_27 : decode c_b_empty 27 = .ok (.getfield 164, 3) := by decide +kernel
theorem d_b_empty_30 : decode c_b_empty 30 = .ok (.iload_n 1, 1) := by decide +kernel
theorem d_b_empty_31 : decode c_b_empty 31 = .ok (.iaload, 1) := by decide +kernel
theorem d_b_empty_32 : decode c_b_empty 32 = .ok (.istore_n 3, 1) := by decide +kernel
theorem d_b_empty_33 : decode c_b_empty 33 = .ok (.aload_n 0, 1) := by decide +kernel
theorem d_b_empty_34 : decode c_b_empty 34 = .ok (.getfield 26, 3) := by decide +kernel
theorem d_b_empty_37 : decode c_b_empty 37 = .ok (.getfield 164, 3) := by decide +kernel
theorem d_b_empty_40 : decode c_b_empty 40 = .ok (.iload_n 1, 1) := by decide +kernel
theorem d_b_empty_41 : decode c_b_empty 41 = .ok (.iconst 0, 1) := by decide +kernel
theorem d_b_empty_42 : decode c_b_empty 42 = .ok (.iastore, 1) := by decide +kernel
theorem d_b_empty_43 : decode c_b_empty 43 = .ok (.aload_n 0, 1) := by decide +kernel
theorem d_b_empty_44 : decode c_b_empty 44 = .ok (.getfield 26, 3) := by decide +kernel
theorem d_b_empty_47 : decode c_b_empty 47 = .ok (.getfield 167, 3) := by decide +kernel
theorem d_b_empty_50 : decode c_b_empty 50 = .ok (.iload_n 1, 1) := by decide +kernel
theorem d_b_empty_51 : decode c_b_empty 51 = .ok (.iload_n 2, 1) := by decide +kernel
theorem d_b_empty_52 : decode c_b_empty 52 = .ok (.iastore, 1) := by decide +kernel
theorem d_b_empty_53 : decode c_b_empty 53 = .ok (.iload_n 3, 1) := by decide +kernel
theorem d_b_empty_54 : decode c_b_empty 54 = .ok (.ireturn, 1) := by decide +kernel
theorem d_b_service_0 : decode c_b_service 0 = .ok (.aload_n 0, 1) := by decide +kernel
theorem d_b_service_1 : decode c_b_service 1 = .ok (.invokevirtual 55, 3) := by decide +kernel
theorem d_b_service_4 : decode c_b_service 4 = .ok (.aload_n 0, 1) := by decide +kernel
theorem d_b_service_5 : decode c_b_service 5 = .ok (.invokevirtual 74, 3) := by decide +kernel
theorem d_b_service_8 : decode c_b_service 8 = .ok (.aload_n 0, 1) := by decide +kernel
theorem d_b_service_9 : decode c_b_service 9 = .ok (.invokevirtual 170, 3) := by decide +kernel
theorem d_b_service_12 : decode c_b_service 12 = .ok (.istore_n 1, 1) := by decide +kernel
theorem d_b_service_13 : decode c_b_service 13 = .ok (.aload_n 0, 1) := by decide +kernel
theorem d_b_service_14 : decode c_b_service 14 = .ok (.iconst 0, 1) := by decide +kernel
theorem d_b_service_15 : decode c_b_service 15 = .ok (.putfield 133, 3) := by decide +kernel
theorem d_b_service_18 : decode c_b_service 18 = .ok (.iload_n 1, 1) := by decide +kernel
theorem d_b_service_19 : decode c_b_service 19 = .ok (.ireturn, 1) := by decide +kernel
theorem d_b_cut_0 : decode c_b_cut 0 = .ok (.iload_n 1, 1) := by decide +kernel
theorem d_b_cut_1 : decode c_b_cut 1 = .ok (.iconst 0, 1) := by decide +kernel
theorem d_b_cut_2 : decode c_b_cut 2 = .ok (.sipush 1000, 3) := by decide +kernel
theorem d_b_cut_5 : decode c_b_cut 5 = .ok (.invokestatic 66, 3) := by decide +kernel
theorem d_b_cut_8 : decode c_b_cut 8 = .ok (.invokestatic 62, 3) := by decide +kernel
theorem d_b_cut_11 : decode c_b_cut 11 = .ok (.aload_n 0, 1) := by decide +kernel
theorem d_b_cut_12 : decode c_b_cut 12 = .ok (.getfield 40, 3) := by decide +kernel
theorem d_b_cut_15 : decode c_b_cut 15 = .ok (.iload_n 1, 1) := by decide +kernel
theorem d_b_cut_16 : decode c_b_cut 16 = .ok (.putfield 173, 3) := by decide +kernel
theorem d_b_cut_19 : decode c_b_cut 19 = .ok (.return_, 1) := by decide +kernel
theorem d_be_forgetBefore_0 : decode c_be_forgetBefore 0 = .ok (.iconst 0, 1) := by decide +kernel
theorem d_be_forgetBefore_1 : decode c_be_forgetBefore 1 = .ok (.istore_n 2, 1) := by decide +kernel
theorem d_be_forgetBefore_2 : decode c_be_forgetBefore 2 = .ok (.iload_n 2, 1) := by decide +kernel
theorem d_be_forgetBefore_3 : decode c_be_forgetBefore 3 = .ok (.aload_n 0, 1) := by decide +kernel
theorem d_be_forgetBefore_4 : decode c_be_forgetBefore 4 = .ok (.getfield 18, 3) := by decide +kernel
theorem d_be_forgetBefore_7 : decode c_be_forgetBefore 7 = .ok (.if_icmp .ge 31, 3) := by decide +kernel
theorem d_be_forgetBefore_10 : decode c_be_forgetBefore 10 = .ok (.aload_n 0, 1) := by decide +kernel
theorem d_be_forgetBefore_11 : decode c_be_forgetBefore 11 = .ok (.getfield 11, 3) := by decide +kernel
theorem d_be_forgetBefore_14 : decode c_be_forgetBefore 14 = .ok (.iload_n 2, 1) := by decide +kernel
theorem d_be_forgetBefore_15 : decode c_be_forgetBefore 15 = .ok (.aaload, 1) := by decide +kernel
theorem d_be_forgetBefore_16 : decode c_be_forgetBefore 16 = .ok (.getfield 40, 3) := by decide +kernel
theorem d_be_forgetBefore_19 : decode c_be_forgetBefore 19 = .ok (.iload_n 1, 1) := by decide +kernel
theorem d_be_forgetBefore_20 : decode c_be_forgetBefore 20 = .ok (.if_icmp .ge 12, 3) := by decide +kernel
theorem d_be_forgetBefore_23 : decode c_be_forgetBefore 23 = .ok (.aload_n 0, 1) := by decide +kernel
theorem d_be_forgetBefore_24 : decode c_be_forgetBefore 24 = .ok (.getfield 11, 3) := by decide +kernel
theorem d_be_forgetBefore_27 : decode c_be_forgetBefore 27 = .ok (.iload_n 2, 1) := by decide +kernel
theorem d_be_forgetBefore_28 : decode c_be_forgetBefore 28 = .ok (.aaload, 1) := by decide +kernel
theorem d_be_forgetBefore_29 : decode c_be_forgetBefore 29 = .ok (.invokevirtual 50, 3) := by decide +kernel
theorem d_be_forgetBefore_32 : decode c_be_forgetBefore 32 = .ok (.iinc 2 1, 3) := by decide +kernel
theorem d_be_forgetBefore_35 : decode c_be_forgetBefore 35 = .ok (.goto (-33), 3) := by decide +kernel
theorem d_be_forgetBefore_38 : decode c_be_forgetBefore 38 = .ok (.return_, 1) := by decide +kernel
theorem d_b_payUnpaid_0 : decode c_b_payUnpaid 0 = .ok (.iconst 0, 1) := by decide +kernel
theorem d_b_payUnpaid_1 : decode c_b_payUnpaid 1 = .ok (.istore_n 1, 1) := by decide +kernel
theorem d_b_payUnpaid_2 : decode c_b_payUnpaid 2 = .ok (.iload_n 1, 1) := by decide +kernel
theorem d_b_payUnpaid_3 : decode c_b_payUnpaid 3 = .ok (.aload_n 0, 1) := by decide +kernel
theorem d_b_payUnpaid_4 : decode c_b_payUnpaid 4 = .ok (.getfield 19, 3) := by decide +kernel
theorem d_b_payUnpaid_7 : decode c_b_payUnpaid 7 = .ok (.getfield 127, 3) := by decide +kernel
theorem d_b_payUnpaid_10 : decode c_b_payUnpaid 10 = .ok (.if_icmp .ge 50, 3) := by decide +kernel
theorem d_b_payUnpaid_13 : decode c_b_payUnpaid 13 = .ok (.aload_n 0, 1) := by decide +kernel
theorem d_b_payUnpaid_14 : decode c_b_payUnpaid 14 = .ok (.getfield 40, 3) := by decide +kernel
theorem d_b_payUnpaid_17 : decode c_b_payUnpaid 17 = .ok (.getfield 116, 3) := by decide +kernel
theorem d_b_payUnpaid_20 : decode c_b_payUnpaid 20 = .ok (.ifCond .eq 40, 3) := by decide +kernel
theorem d_b_payUnpaid_23 : decode c_b_payUnpaid 23 = .ok (.aload_n 0, 1) := by decide +kernel
theorem d_b_payUnpaid_24 : decode c_b_payUnpaid 24 = .ok (.getfield 19, 3) := by decide +kernel
theorem d_b_payUnpaid_27 : decode c_b_payUnpaid 27 = .ok (.getfield 232, 3) := by decide +kernel
theorem d_b_payUnpaid_30 : decode c_b_payUnpaid 30 = .ok (.iload_n 1, 1) := by decide +kernel
theorem d_b_payUnpaid_31 : decode c_b_payUnpaid 31 = .ok (.aaload, 1) := by decide +kernel
theorem d_b_payUnpaid_32 : decode c_b_payUnpaid 32 = .ok (.astore_n 2, 1) := by decide +kernel
theorem d_b_payUnpaid_33 : decode c_b_payUnpaid 33 = .ok (.aload_n 2, 1) := by decide +kernel
theorem d_b_payUnpaid_34 : decode c_b_payUnpaid 34 = .ok (.getfield 216, 3) := by decide +kernel
theorem d_b_payUnpaid_37 : decode c_b_payUnpaid 37 = .ok (.bipush 105, 2) := by decide +kernel
theorem d_b_payUnpaid_39 : decode c_b_payUnpaid 39 = .ok (.if_icmp .lt 15, 3) := by decide +kernel
theorem d_b_payUnpaid_42 : decode c_b_payUnpaid 42 = .ok (.aload_n 2, 1) := by decide +kernel
theorem d_b_payUnpaid_43 : decode c_b_payUnpaid 43 = .ok (.getfield 228, 3) := by decide +kernel
theorem d_b_payUnpaid_46 : decode c_b_payUnpaid 46 = .ok (.ifCond .ne 8, 3) := by decide +kernel
theorem d_b_payUnpaid_49 : decode c_b_payUnpaid 49 = .ok (.aload_n 0, 1) := by decide +kernel
theorem d_b_payUnpaid_50 : decode c_b_payUnpaid 50 = .ok (.aload_n 2, 1) := by decide +kernel
theorem d_b_payUnpaid_51 : decode c_b_payUnpaid 51 = .ok (.invokevirtual 264, 3) := by decide +kernel
theorem d_b_payUnpaid_54 : decode c_b_payUnpaid 54 = .ok (.iinc 1 1, 3) := by decide +kernel
theorem d_b_payUnpaid_57 : decode c_b_payUnpaid 57 = .ok (.goto (-55), 3) := by decide +kernel
theorem d_b_payUnpaid_60 : decode c_b_payUnpaid 60 = .ok (.return_, 1) := by decide +kernel
theorem d_b_binWaiting_0 : decode c_b_binWaiting 0 = .ok (.iconst 0, 1) := by decide +kernel
theorem d_b_binWaiting_1 : decode c_b_binWaiting 1 = .ok (.istore_n 1, 1) := by decide +kernel
theorem d_b_binWaiting_2 : decode c_b_binWaiting 2 = .ok (.aload_n 0, 1) := by decide +kernel
theorem d_b_binWaiting_3 : decode c_b_binWaiting 3 = .ok (.getfield 19, 3) := by decide +kernel
theorem d_b_binWaiting_6 : decode c_b_binWaiting 6 = .ok (.getfield 127, 3) := by decide +kernel
theorem d_b_binWaiting_9 : decode c_b_binWaiting 9 = .ok (.istore_n 2, 1) := by decide +kernel
theorem d_b_binWaiting_10 : decode c_b_binWaiting 10 = .ok (.iload_n 2, 1) := by decide +kernel
theorem d_b_binWaiting_11 : decode c_b_binWaiting 11 = .ok (.ifCond .le 57, 3) := by decide +kernel
theorem d_b_binWaiting_14 : decode c_b_binWaiting 14 = .ok (.aload_n 0, 1) := by decide +kernel
theorem d_b_binWaiting_15 : decode c_b_binWaiting 15 = .ok (.getfield 40, 3) := by decide +kernel
theorem d_b_binWaiting_18 : decode c_b_binWaiting 18 = .ok (.getfield 116, 3) := by decide +kernel
theorem d_b_binWaiting_21 : decode c_b_binWaiting 21 = .ok (.ifCond .eq 47, 3) := by decide +kernel
theorem d_b_binWaiting_24 : decode c_b_binWaiting 24 = .ok (.aload_n 0, 1) := by decide +kernel
theorem d_b_binWaiting_25 : decode c_b_binWaiting 25 = .ok (.getfield 19, 3) := by decide +kernel
theorem d_b_binWaiting_28 : decode c_b_binWaiting 28 = .ok (.getfield 232, 3) := by decide +kernel
theorem d_b_binWaiting_31 : decode c_b_binWaiting 31 = .ok (.iload_n 1, 1) := by decide +kernel
theorem d_b_binWaiting_32 : decode c_b_binWaiting 32 = .ok (.aaload, 1) := by decide +kernel
theorem d_b_binWaiting_33 : decode c_b_binWaiting 33 = .ok (.invokevirtual 257, 3) := by decide +kernel
theorem d_b_binWaiting_36 : decode c_b_binWaiting 36 = .ok (.bipush 110, 2) := by decide +kernel
theorem d_b_binWaiting_38 : decode c_b_binWaiting 38 = .ok (.if_icmp .lt 7, 3) := by decide +kernel
theorem d_b_binWaiting_41 : decode c_b_binWaiting 41 = .ok (.iconst 1, 1) := by decide +kernel
theorem d_b_binWaiting_42 : decode c_b_binWaiting 42 = .ok (.goto 4, 3) := by decide +kernel
theorem d_b_binWaiting_45 : decode c_b_binWaiting 45 = .ok (.iconst 0, 1) := by decide +kernel
theorem d_b_binWaiting_46 : decode c_b_binWaiting 46 = .ok (.istore_n 3, 1) := by decide +kernel
theorem d_b_binWaiting_47 : decode c_b_binWaiting 47 = .ok (.iload_n 3, 1) := by decide +kernel
theorem d_b_binWaiting_48 : decode c_b_binWaiting 48 = .ok (.ifCond .eq 11, 3) := by decide +kernel
theorem d_b_binWaiting_51 : decode c_b_binWaiting 51 = .ok (.aload_n 0, 1) := by decide +kernel
theorem d_b_binWaiting_52 : decode c_b_binWaiting 52 = .ok (.iload_n 1, 1) := by decide +kernel
theorem d_b_binWaiting_53 : decode c_b_binWaiting 53 = .ok (.invokevirtual 267, 3) := by decide +kernel
theorem d_b_binWaiting_56 : decode c_b_binWaiting 56 = .ok (.ifCond .ne 6, 3) := by decide +kernel
theorem d_b_binWaiting_59 : decode c_b_binWaiting 59 = .ok (.iinc 1 1, 3) := by decide +kernel
theorem d_b_binWaiting_62 : decode c_b_binWaiting 62 = .ok (.iinc 2 (-1), 3) := by decide +kernel
theorem d_b_binWaiting_65 : decode c_b_binWaiting 65 = .ok (.goto (-55), 3) := by decide +kernel
theorem d_b_binWaiting_68 : decode c_b_binWaiting 68 = .ok (.return_, 1) := by decide +kernel
theorem d_b_power_0 : decode c_b_power 0 = .ok (.aload_n 0, 1) := by decide +kernel
theorem d_b_power_1 : decode c_b_power 1 = .ok (.getfield 40, 3) := by decide +kernel
theorem d_b_power_4 : decode c_b_power 4 = .ok (.getfield 116, 3) := by decide +kernel
theorem d_b_power_7 : decode c_b_power 7 = .ok (.ifCond .eq 5, 3) := by decide +kernel
theorem d_b_power_10 : decode c_b_power 10 = .ok (.iconst (-1), 1) := by decide +kernel
theorem d_b_power_11 : decode c_b_power 11 = .ok (.ireturn, 1) := by decide +kernel
theorem d_b_power_12 : decode c_b_power 12 = .ok (.aload_n 0, 1) := by decide +kernel
theorem d_b_power_13 : decode c_b_power 13 = .ok (.getfield 40, 3) := by decide +kernel
theorem d_b_power_16 : decode c_b_power 16 = .ok (.getfield 176, 3) := by decide +kernel
theorem d_b_power_19 : decode c_b_power 19 = .ok (.istore_n 1, 1) := by decide +kernel
theorem d_b_power_20 : decode c_b_power 20 = .ok (.aload_n 0, 1) := by decide +kernel
theorem d_b_power_21 : decode c_b_power 21 = .ok (.getfield 40, 3) := by decide +kernel
theorem d_b_power_24 : decode c_b_power 24 = .ok (.iconst 1, 1) := by decide +kernel
theorem d_b_power_25 : decode c_b_power 25 = .ok (.putfield 116, 3) := by decide +kernel
theorem d_b_power_28 : decode c_b_power 28 = .ok (.aload_n 0, 1) := by decide +kernel
theorem d_b_power_29 : decode c_b_power 29 = .ok (.getfield 19, 3) := by decide +kernel
theorem d_b_power_32 : decode c_b_power 32 = .ok (.bipush 105, 2) := by decide +kernel
theorem d_b_power_34 : decode c_b_power 34 = .ok (.invokevirtual 179, 3) := by decide +kernel
theorem d_b_power_37 : decode c_b_power 37 = .ok (.aload_n 0, 1) := by decide +kernel
theorem d_b_power_38 : decode c_b_power 38 = .ok (.invokevirtual 182, 3) := by decide +kernel
theorem d_b_power_41 : decode c_b_power 41 = .ok (.aload_n 0, 1) := by decide +kernel
theorem d_b_power_42 : decode c_b_power 42 = .ok (.invokevirtual 185, 3) := by decide +kernel
theorem d_b_power_45 : decode c_b_power 45 = .ok (.aload_n 0, 1) := by decide +kernel
theorem d_b_power_46 : decode c_b_power 46 = .ok (.getfield 40, 3) := by decide +kernel
theorem d_b_power_49 : decode c_b_power 49 = .ok (.getfield 176, 3) := by decide +kernel
theorem d_b_power_52 : decode c_b_power 52 = .ok (.iload_n 1, 1) := by decide +kernel
theorem d_b_power_53 : decode c_b_power 53 = .ok (.isub, 1) := by decide +kernel
theorem d_b_power_54 : decode c_b_power 54 = .ok (.ireturn, 1) := by decide +kernel
theorem d_b_check_0 : decode c_b_check 0 = .ok (.iload_n 1, 1) := by decide +kernel
theorem d_b_check_1 : decode c_b_check 1 = .ok (.iconst 0, 1) := by decide +kernel
theorem d_b_check_2 : decode c_b_check 2 = .ok (.ldc 188, 2) := by decide +kernel
theorem d_b_check_4 : decode c_b_check 4 = .ok (.invokestatic 66, 3) := by decide +kernel
theorem d_b_check_7 : decode c_b_check 7 = .ok (.invokestatic 62, 3) := by decide +kernel
theorem d_b_check_10 : decode c_b_check 10 = .ok (.iload_n 2, 1) := by decide +kernel
theorem d_b_check_11 : decode c_b_check 11 = .ok (.iconst 0, 1) := by decide +kernel
theorem d_b_check_12 : decode c_b_check 12 = .ok (.ldc 188, 2) := by decide +kernel
theorem d_b_check_14 : decode c_b_check 14 = .ok (.invokestatic 66, 3) := by decide +kernel
theorem d_b_check_17 : decode c_b_check 17 = .ok (.invokestatic 62, 3) := by decide +kernel
theorem d_b_check_20 : decode c_b_check 20 = .ok (.iload_n 1, 1) := by decide +kernel
theorem d_b_check_21 : decode c_b_check 21 = .ok (.i2l, 1) := by decide +kernel
theorem d_b_check_22 : decode c_b_check 22 = .ok (.ldc2_w 189, 3) := by decide +kernel
theorem d_b_check_25 : decode c_b_check 25 = .ok (.lmul, 1) := by decide +kernel
theorem d_b_check_26 : decode c_b_check 26 = .ok (.iload_n 2, 1) := by decide +kernel
theorem d_b_check_27 : decode c_b_check 27 = .ok (.i2l, 1) := by decide +kernel
theorem d_b_check_28 : decode c_b_check 28 = .ok (.ladd, 1) := by decide +kernel
theorem d_b_check_29 : decode c_b_check 29 = .ok (.lstore_n 3, 1) := by decide +kernel
theorem d_b_check_30 : decode c_b_check 30 = .ok (.iload_n 2, 1) := by decide +kernel
theorem d_b_check_31 : decode c_b_check 31 = .ok (.bipush 100, 2) := by decide +kernel
theorem d_b_check_33 : decode c_b_check 33 = .ok (.idiv, 1) := by decide +kernel
theorem d_b_check_34 : decode c_b_check 34 = .ok (.bipush 100, 2) := by decide +kernel
theorem d_b_check_36 : decode c_b_check 36 = .ok (.irem, 1) := by decide +kernel
theorem d_b_check_37 : decode c_b_check 37 = .ok (.bipush 37, 2) := by decide +kernel
theorem d_b_check_39 : decode c_b_check 39 = .ok (.if_icmp .ne 17, 3) := by decide +kernel
theorem d_b_check_42 : decode c_b_check 42 = .ok (.lload_n 3, 1) := by decide +kernel
theorem d_b_check_43 : decode c_b_check 43 = .ok (.ldc2_w 191, 3) := by decide +kernel
theorem d_b_check_46 : decode c_b_check 46 = .ok (.lrem, 1) := by decide +kernel
theorem d_b_check_47 : decode c_b_check 47 = .ok (.lconst 1, 1) := by decide +kernel
theorem d_b_check_48 : decode c_b_check 48 = .ok (.lcmp, 1) := by decide +kernel
theorem d_b_check_49 : decode c_b_check 49 = .ok (.ifCond .ne 7, 3) := by decide +kernel
theorem d_b_check_52 : decode c_b_check 52 = .ok (.iconst 1, 1) := by decide +kernel
theorem d_b_check_53 : decode c_b_check 53 = .ok (.goto 4, 3) := by decide +kernel
theorem d_b_check_56 : decode c_b_check 56 = .ok (.iconst 0, 1) := by decide +kernel
theorem d_b_check_57 : decode c_b_check 57 = .ok (.ireturn, 1) := by decide +kernel
theorem d_vo_firstDigits_0 : decode c_vo_firstDigits 0 = .ok (.aload_n 0, 1) := by decide +kernel
theorem d_vo_firstDigits_1 : decode c_vo_firstDigits 1 = .ok (.getfield 9, 3) := by decide +kernel
theorem d_vo_firstDigits_4 : decode c_vo_firstDigits 4 = .ok (.iload_n 1, 1) := by decide +kernel
theorem d_vo_firstDigits_5 : decode c_vo_firstDigits 5 = .ok (.iaload, 1) := by decide +kernel
theorem d_vo_firstDigits_6 : decode c_vo_firstDigits 6 = .ok (.bipush 100, 2) := by decide +kernel
theorem d_vo_firstDigits_8 : decode c_vo_firstDigits 8 = .ok (.imul, 1) := by decide +kernel
theorem d_vo_firstDigits_9 : decode c_vo_firstDigits 9 = .ok (.aload_n 0, 1) := by decide +kernel
theorem d_vo_firstDigits_10 : decode c_vo_firstDigits 10 = .ok (.getfield 15, 3) := by decide +kernel
theorem d_vo_firstDigits_13 : decode c_vo_firstDigits 13 = .ok (.iload_n 1, 1) := by decide +kernel
theorem d_vo_firstDigits_14 : decode c_vo_firstDigits 14 = .ok (.iaload, 1) := by decide +kernel
theorem d_vo_firstDigits_15 : decode c_vo_firstDigits 15 = .ok (.sipush 10000, 3) := by decide +kernel
theorem d_vo_firstDigits_18 : decode c_vo_firstDigits 18 = .ok (.idiv, 1) := by decide +kernel
theorem d_vo_firstDigits_19 : decode c_vo_firstDigits 19 = .ok (.iadd, 1) := by decide +kernel
theorem d_vo_firstDigits_20 : decode c_vo_firstDigits 20 = .ok (.ireturn, 1) := by decide +kernel
theorem d_vo_lastDigits_0 : decode c_vo_lastDigits 0 = .ok (.aload_n 0, 1) := by decide +kernel
theorem d_vo_lastDigits_1 : decode c_vo_lastDigits 1 = .ok (.getfield 15, 3) := by decide +kernel
theorem d_vo_lastDigits_4 : decode c_vo_lastDigits 4 = .ok (.iload_n 1, 1) := by decide +kernel
theorem d_vo_lastDigits_5 : decode c_vo_lastDigits 5 = .ok (.iaload, 1) := by decide +kernel
theorem d_vo_lastDigits_6 : decode c_vo_lastDigits 6 = .ok (.sipush 10000, 3) := by decide +kernel
theorem d_vo_lastDigits_9 : decode c_vo_lastDigits 9 = .ok (.irem, 1) := by decide +kernel
theorem d_vo_lastDigits_10 : decode c_vo_lastDigits 10 = .ok (.sipush 10000, 3) := by decide +kernel
theorem d_vo_lastDigits_13 : decode c_vo_lastDigits 13 = .ok (.imul, 1) := by decide +kernel
theorem d_vo_lastDigits_14 : decode c_vo_lastDigits 14 = .ok (.sipush 3700, 3) := by decide +kernel
theorem d_vo_lastDigits_17 : decode c_vo_lastDigits 17 = .ok (.iadd, 1) := by decide +kernel
theorem d_vo_lastDigits_18 : decode c_vo_lastDigits 18 = .ok (.istore_n 2, 1) := by decide +kernel
theorem d_vo_lastDigits_19 : decode c_vo_lastDigits 19 = .ok (.aload_n 0, 1) := by decide +kernel
theorem d_vo_lastDigits_20 : decode c_vo_lastDigits 20 = .ok (.iload_n 1, 1) := by decide +kernel
theorem d_vo_lastDigits_21 : decode c_vo_lastDigits 21 = .ok (.invokevirtual 36, 3) := by decide +kernel
theorem d_vo_lastDigits_24 : decode c_vo_lastDigits 24 = .ok (.i2l, 1) := by decide +kernel
theorem d_vo_lastDigits_25 : decode c_vo_lastDigits 25 = .ok (.ldc2_w 40, 3) := by decide +kernel
theorem d_vo_lastDigits_28 : decode c_vo_lastDigits 28 = .ok (.lmul, 1) := by decide +kernel
theorem d_vo_lastDigits_29 : decode c_vo_lastDigits 29 = .ok (.iload_n 2, 1) := by decide +kernel
theorem d_vo_lastDigits_30 : decode c_vo_lastDigits 30 = .ok (.i2l, 1) := by decide +kernel
theorem d_vo_lastDigits_31 : decode c_vo_lastDigits 31 = .ok (.ladd, 1) := by decide +kernel
theorem d_vo_lastDigits_32 : decode c_vo_lastDigits 32 = .ok (.lstore_n 3, 1) := by decide +kernel
theorem d_vo_lastDigits_33 : decode c_vo_lastDigits 33 = .ok (.iload_n 2, 1) := by decide +kernel
theorem d_vo_lastDigits_34 : decode c_vo_lastDigits 34 = .ok (.bipush 97, 2) := by decide +kernel
theorem d_vo_lastDigits_36 : decode c_vo_lastDigits 36 = .ok (.iadd, 1) := by decide +kernel
theorem d_vo_lastDigits_37 : decode c_vo_lastDigits 37 = .ok (.iconst 1, 1) := by decide +kernel
theorem d_vo_lastDigits_38 : decode c_vo_lastDigits 38 = .ok (.iadd, 1) := by decide +kernel
theorem d_vo_lastDigits_39 : decode c_vo_lastDigits 39 = .ok (.lload_n 3, 1) := by decide +kernel
theorem d_vo_lastDigits_40 : decode c_vo_lastDigits 40 = .ok (.ldc2_w 42, 3) := by decide +kernel
theorem d_vo_lastDigits_43 : decode c_vo_lastDigits 43 = .ok (.lrem, 1) := by decide +kernel
theorem d_vo_lastDigits_44 : decode c_vo_lastDigits 44 = .ok (.l2i, 1) := by decide +kernel
theorem d_vo_lastDigits_45 : decode c_vo_lastDigits 45 = .ok (.isub, 1) := by decide +kernel
theorem d_vo_lastDigits_46 : decode c_vo_lastDigits 46 = .ok (.ireturn, 1) := by decide +kernel
theorem d_b_asNumber_0 : decode c_b_asNumber 0 = .ok (.iload_n 0, 1) := by decide +kernel
theorem d_b_asNumber_1 : decode c_b_asNumber 1 = .ok (.ifCond .eq 7, 3) := by decide +kernel
theorem d_b_asNumber_4 : decode c_b_asNumber 4 = .ok (.iconst 1, 1) := by decide +kernel
theorem d_b_asNumber_5 : decode c_b_asNumber 5 = .ok (.goto 4, 3) := by decide +kernel
theorem d_b_asNumber_8 : decode c_b_asNumber 8 = .ok (.iconst 0, 1) := by decide +kernel
theorem d_b_asNumber_9 : decode c_b_asNumber 9 = .ok (.ireturn, 1) := by decide +kernel
theorem d_b_about_0 : decode c_b_about 0 = .ok (.aload_n 0, 1) := by decide +kernel
theorem d_b_about_1 : decode c_b_about 1 = .ok (.getfield 33, 3) := by decide +kernel
theorem d_b_about_4 : decode c_b_about 4 = .ok (.iload_n 1, 1) := by decide +kernel
theorem d_b_about_5 : decode c_b_about 5 = .ok (.invokevirtual 151, 3) := by decide +kernel
theorem d_b_about_8 : decode c_b_about 8 = .ok (.istore_n 3, 1) := by decide +kernel
theorem d_b_about_9 : decode c_b_about 9 = .ok (.iload_n 3, 1) := by decide +kernel
theorem d_b_about_10 : decode c_b_about 10 = .ok (.aload_n 0, 1) := by decide +kernel
theorem d_b_about_11 : decode c_b_about 11 = .ok (.getfield 33, 3) := by decide +kernel
theorem d_b_about_14 : decode c_b_about 14 = .ok (.getfield 154, 3) := by decide +kernel
theorem d_b_about_17 : decode c_b_about 17 = .ok (.invokestatic 58, 3) := by decide +kernel
theorem d_b_about_20 : decode c_b_about 20 = .ok (.invokestatic 62, 3) := by decide +kernel
theorem d_b_about_23 : decode c_b_about 23 = .ok (.iload_n 2, 1) := by decide +kernel
theorem d_b_about_24 : decode c_b_about 24 = .ok (.tableswitch 73 0 3 #[32, 42, 51, 60], 32) := by decide +kernel
theorem d_b_about_56 : decode c_b_about 56 = .ok (.aload_n 0, 1) := by decide +kernel
theorem d_b_about_57 : decode c_b_about 57 = .ok (.getfield 33, 3) := by decide +kernel
theorem d_b_about_60 : decode c_b_about 60 = .ok (.getfield 193, 3) := by decide +kernel
theorem d_b_about_63 : decode c_b_about 63 = .ok (.iload_n 3, 1) := by decide +kernel
theorem d_b_about_64 : decode c_b_about 64 = .ok (.iaload, 1) := by decide +kernel
theorem d_b_about_65 : decode c_b_about 65 = .ok (.ireturn, 1) := by decide +kernel
theorem d_b_about_66 : decode c_b_about 66 = .ok (.aload_n 0, 1) := by decide +kernel
theorem d_b_about_67 : decode c_b_about 67 = .ok (.getfield 33, 3) := by decide +kernel
theorem d_b_about_70 : decode c_b_about 70 = .ok (.iload_n 3, 1) := by decide +kernel
theorem d_b_about_71 : decode c_b_about 71 = .ok (.invokevirtual 196, 3) := by decide +kernel
theorem d_b_about_74 : decode c_b_about 74 = .ok (.ireturn, 1) := by decide +kernel
theorem d_b_about_75 : decode c_b_about 75 = .ok (.aload_n 0, 1) := by decide +kernel
theorem d_b_about_76 : decode c_b_about 76 = .ok (.getfield 33, 3) := by decide +kernel
theorem d_b_about_79 : decode c_b_about 79 = .ok (.iload_n 3, 1) := by decide +kernel
theorem d_b_about_80 : decode c_b_about 80 = .ok (.invokevirtual 199, 3) := by decide +kernel
theorem d_b_about_83 : decode c_b_about 83 = .ok (.ireturn, 1) := by decide +kernel
theorem d_b_about_84 : decode c_b_about 84 = .ok (.aload_n 0, 1) := by decide +kernel
theorem d_b_about_85 : decode c_b_about 85 = .ok (.getfield 33, 3) := by decide +kernel
theorem d_b_about_88 : decode c_b_about 88 = .ok (.getfield 202, 3) := by decide +kernel
theorem d_b_about_91 : decode c_b_about 91 = .ok (.iload_n 3, 1) := by decide +kernel
theorem d_b_about_92 : decode c_b_about 92 = .ok (.baload, 1) := by decide +kernel
theorem d_b_about_93 : decode c_b_about 93 = .ok (.invokestatic 206, 3) := by decide +kernel
theorem d_b_about_96 : decode c_b_about 96 = .ok (.ireturn, 1) := by decide +kernel
theorem d_b_about_97 : decode c_b_about 97 = .ok (.new 210, 3) := by decide +kernel
theorem d_b_about_100 : decode c_b_about 100 = .ok (.dup, 1) := by decide +kernel
theorem d_b_about_101 : decode c_b_about 101 = .ok (.invokespecial 212, 3) := by decide +kernel
theorem d_b_about_104 : decode c_b_about 104 = .ok (.athrow, 1) := by decide +kernel
theorem d_be_withNumber_0 : decode c_be_withNumber 0 = .ok (.iconst 0, 1) := by decide +kernel
theorem d_be_withNumber_1 : decode c_be_withNumber 1 = .ok (.istore_n 2, 1) := by decide +kernel
theorem d_be_withNumber_2 : decode c_be_withNumber 2 = .ok (.iload_n 2, 1) := by decide +kernel
theorem d_be_withNumber_3 : decode c_be_withNumber 3 = .ok (.aload_n 0, 1) := by decide +kernel
theorem d_be_withNumber_4 : decode c_be_withNumber 4 = .ok (.getfield 18, 3) := by decide +kernel
theorem d_be_withNumber_7 : decode c_be_withNumber 7 = .ok (.if_icmp .ge 29, 3) := by decide +kernel
theorem d_be_withNumber_10 : decode c_be_withNumber 10 = .ok (.aload_n 0, 1) := by decide +kernel
theorem d_be_withNumber_11 : decode c_be_withNumber 11 = .ok (.getfield 11, 3) := by decide +kernel
theorem d_be_withNumber_14 : decode c_be_withNumber 14 = .ok (.iload_n 2, 1) := by decide +kernel
theorem d_be_withNumber_15 : decode c_be_withNumber 15 = .ok (.aaload, 1) := by decide +kernel
theorem d_be_withNumber_16 : decode c_be_withNumber 16 = .ok (.getfield 37, 3) := by decide +kernel
theorem d_be_withNumber_19 : decode c_be_withNumber 19 = .ok (.iload_n 1, 1) := by decide +kernel
theorem d_be_withNumber_20 : decode c_be_withNumber 20 = .ok (.if_icmp .ne 10, 3) := by decide +kernel
theorem d_be_withNumber_23 : decode c_be_withNumber 23 = .ok (.aload_n 0, 1) := by decide +kernel
theorem d_be_withNumber_24 : decode c_be_withNumber 24 = .ok (.getfield 11, 3) := by decide +kernel
theorem d_be_withNumber_27 : decode c_be_withNumber 27 = .ok (.iload_n 2, 1) := by decide +kernel
theorem d_be_withNumber_28 : decode c_be_withNumber 28 = .ok (.aaload, 1) := by decide +kernel
theorem d_be_withNumber_29 : decode c_be_withNumber 29 = .ok (.areturn, 1) := by decide +kernel
theorem d_be_withNumber_30 : decode c_be_withNumber 30 = .ok (.iinc 2 1, 3) := by decide +kernel
theorem d_be_withNumber_33 : decode c_be_withNumber 33 = .ok (.goto (-31), 3) := by decide +kernel
theorem d_be_withNumber_36 : decode c_be_withNumber 36 = .ok (.aconst_null, 1) := by decide +kernel
theorem d_be_withNumber_37 : decode c_be_withNumber 37 = .ok (.areturn, 1) := by decide +kernel
theorem d_b_container_0 : decode c_b_container 0 = .ok (.aload_n 0, 1) := by decide +kernel
theorem d_b_container_1 : decode c_b_container 1 = .ok (.getfield 19, 3) := by decide +kernel
theorem d_b_container_4 : decode c_b_container 4 = .ok (.iload_n 1, 1) := by decide +kernel
theorem d_b_container_5 : decode c_b_container 5 = .ok (.invokevirtual 213, 3) := by decide +kernel
theorem d_b_container_8 : decode c_b_container 8 = .ok (.astore_n 3, 1) := by decide +kernel
theorem d_b_container_9 : decode c_b_container 9 = .ok (.aload_n 3, 1) := by decide +kernel
theorem d_b_container_10 : decode c_b_container 10 = .ok (.ifnonnull 11, 3) := by decide +kernel
theorem d_b_container_13 : decode c_b_container 13 = .ok (.new 210, 3) := by decide +kernel
theorem d_b_container_16 : decode c_b_container 16 = .ok (.dup, 1) := by decide +kernel
theorem d_b_container_17 : decode c_b_container 17 = .ok (.invokespecial 212, 3) := by decide +kernel
theorem d_b_container_20 : decode c_b_container 20 = .ok (.athrow, 1) := by decide +kernel
theorem d_b_container_21 : decode c_b_container 21 = .ok (.iload_n 2, 1) := by decide +kernel
theorem d_b_container_22 : decode c_b_container 22 = .ok (.tableswitch 86 0 6 #[42, 47, 52, 57, 62, 70, 78], 42) := by decide +kernel
theorem d_b_container_64 : decode c_b_container 64 = .ok (.aload_n 3, 1) := by decide +kernel
theorem d_b_container_65 : decode c_b_container 65 = .ok (.getfield 216, 3) := by decide +kernel
theorem d_b_container_68 : decode c_b_container 68 = .ok (.ireturn, 1) := by decide +kernel
theorem d_b_container_69 : decode c_b_container 69 = .ok (.aload_n 3, 1) := by decide +kernel
theorem d_b_container_70 : decode c_b_container 70 = .ok (.getfield 219, 3) := by decide +kernel
theorem d_b_container_73 : decode c_b_container 73 = .ok (.ireturn, 1) := by decide +kernel
theorem d_b_container_74 : decode c_b_container 74 = .ok (.aload_n 3, 1) := by decide +kernel
theorem d_b_container_75 : decode c_b_container 75 = .ok (.getfield 222, 3) := by decide +kernel
theorem d_b_container_78 : decode c_b_container 78 = .ok (.ireturn, 1) := by decide +kernel
theorem d_b_container_79 : decode c_b_container 79 = .ok (.aload_n 3, 1) := by decide +kernel
theorem d_b_container_80 : decode c_b_container 80 = .ok (.getfield 225, 3) := by decide +kernel
theorem d_b_container_83 : decode c_b_container 83 = .ok (.ireturn, 1) := by decide +kernel
theorem d_b_container_84 : decode c_b_container 84 = .ok (.aload_n 3, 1) := by decide +kernel
theorem d_b_container_85 : decode c_b_container 85 = .ok (.getfield 228, 3) := by decide +kernel
theorem d_b_container_88 : decode c_b_container 88 = .ok (.invokestatic 206, 3) := by decide +kernel
theorem d_b_container_91 : decode c_b_container 91 = .ok (.ireturn, 1) := by decide +kernel
theorem d_b_container_92 : decode c_b_container 92 = .ok (.aload_n 3, 1) := by decide +kernel
theorem d_b_container_93 : decode c_b_container 93 = .ok (.getfield 97, 3) := by decide +kernel
theorem d_b_container_96 : decode c_b_container 96 = .ok (.getfield 231, 3) := by decide +kernel
theorem d_b_container_99 : decode c_b_container 99 = .ok (.ireturn, 1) := by decide +kernel
theorem d_b_container_100 : decode c_b_container 100 = .ok (.aload_n 3, 1) := by decide +kernel
theorem d_b_container_101 : decode c_b_container 101 = .ok (.getfield 109, 3) := by decide +kernel
theorem d_b_container_104 : decode c_b_container 104 = .ok (.getfield 231, 3) := by decide +kernel
theorem d_b_container_107 : decode c_b_container 107 = .ok (.ireturn, 1) := by decide +kernel
theorem d_b_container_108 : decode c_b_container 108 = .ok (.new 210, 3) := by decide +kernel
theorem d_b_container_111 : decode c_b_container 111 = .ok (.dup, 1) := by decide +kernel
theorem d_b_container_112 : decode c_b_container 112 = .ok (.invokespecial 212, 3) := by decide +kernel
theorem d_b_container_115 : decode c_b_container 115 = .ok (.athrow, 1) := by decide +kernel
theorem d_b_belt_0 : decode c_b_belt 0 = .ok (.iload_n 1, 1) := by decide +kernel
theorem d_b_belt_1 : decode c_b_belt 1 = .ok (.aload_n 0, 1) := by decide +kernel
theorem d_b_belt_2 : decode c_b_belt 2 = .ok (.getfield 19, 3) := by decide +kernel
theorem d_b_belt_5 : decode c_b_belt 5 = .ok (.getfield 127, 3) := by decide +kernel
theorem d_b_belt_8 : decode c_b_belt 8 = .ok (.invokestatic 58, 3) := by decide +kernel
theorem d_b_belt_11 : decode c_b_belt 11 = .ok (.ifCond .eq 18, 3) := by decide +kernel
theorem d_b_belt_14 : decode c_b_belt 14 = .ok (.aload_n 0, 1) := by decide +kernel
theorem d_b_belt_15 : decode c_b_belt 15 = .ok (.getfield 19, 3) := by decide +kernel
theorem d_b_belt_18 : decode c_b_belt 18 = .ok (.getfield 232, 3) := by decide +kernel
theorem d_b_belt_21 : decode c_b_belt 21 = .ok (.iload_n 1, 1) := by decide +kernel
theorem d_b_belt_22 : decode c_b_belt 22 = .ok (.aaload, 1) := by decide +kernel
theorem d_b_belt_23 : decode c_b_belt 23 = .ok (.getfield 236, 3) := by decide +kernel
theorem d_b_belt_26 : decode c_b_belt 26 = .ok (.goto 4, 3) := by decide +kernel
theorem d_b_belt_29 : decode c_b_belt 29 = .ok (.iconst (-1), 1) := by decide +kernel
theorem d_b_belt_30 : decode c_b_belt 30 = .ok (.ireturn, 1) := by decide +kernel
theorem d_b_bin_0 : decode c_b_bin 0 = .ok (.iload_n 1, 1) := by decide +kernel
theorem d_b_bin_1 : decode c_b_bin 1 = .ok (.iconst 3, 1) := by decide +kernel
theorem d_b_bin_2 : decode c_b_bin 2 = .ok (.invokestatic 58, 3) := by decide +kernel
theorem d_b_bin_5 : decode c_b_bin 5 = .ok (.invokestatic 62, 3) := by decide +kernel
theorem d_b_bin_8 : decode c_b_bin 8 = .ok (.iload_n 2, 1) := by decide +kernel
theorem d_b_bin_9 : decode c_b_bin 9 = .ok (.iconst 0, 1) := by decide +kernel
theorem d_b_bin_10 : decode c_b_bin 10 = .ok (.iconst 1, 1) := by decide +kernel
theorem d_b_bin_11 : decode c_b_bin 11 = .ok (.invokestatic 66, 3) := by decide +kernel
theorem d_b_bin_14 : decode c_b_bin 14 = .ok (.invokestatic 62, 3) := by decide +kernel
theorem d_b_bin_17 : decode c_b_bin 17 = .ok (.iload_n 2, 1) := by decide +kernel
theorem d_b_bin_18 : decode c_b_bin 18 = .ok (.ifCond .ne 15, 3) := by decide +kernel
theorem d_b_bin_21 : decode c_b_bin 21 = .ok (.aload_n 0, 1) := by decide +kernel
theorem d_b_bin_22 : decode c_b_bin 22 = .ok (.getfield 26, 3) := by decide +kernel
theorem d_b_bin_25 : decode c_b_bin 25 = .ok (.getfield 164, 3) := by decide +kernel
theorem d_b_bin_28 : decode c_b_bin 28 = .ok (.iload_n 1, 1) := by decide +kernel
theorem d_b_bin_29 : decode c_b_bin 29 = .ok (.iaload, 1) := by decide +kernel
theorem d_b_bin_30 : decode c_b_bin 30 = .ok (.goto 12, 3) := by decide +kernel
theorem d_b_bin_33 : decode c_b_bin 33 = .ok (.aload_n 0, 1) := by decide +kernel
theorem d_b_bin_34 : decode c_b_bin 34 = .ok (.getfield 26, 3) := by decide +kernel
theorem d_b_bin_37 : decode c_b_bin 37 = .ok (.getfield 167, 3) := by decide +kernel
theorem d_b_bin_40 : decode c_b_bin 40 = .ok (.iload_n 1, 1) := by decide +kernel
theorem d_b_bin_41 : decode c_b_bin 41 = .ok (.iaload, 1) := by decide +kernel
theorem d_b_bin_42 : decode c_b_bin 42 = .ok (.ireturn, 1) := by decide +kernel
theorem d_b_total_0 : decode c_b_total 0 = .ok (.iload_n 1, 1) := by decide +kernel
theorem d_b_total_1 : decode c_b_total 1 = .ok (.iconst 1, 1) := by decide +kernel
theorem d_b_total_2 : decode c_b_total 2 = .ok (.bipush 9, 2) := by decide +kernel
theorem d_b_total_4 : decode c_b_total 4 = .ok (.invokestatic 66, 3) := by decide +kernel
theorem d_b_total_7 : decode c_b_total 7 = .ok (.ifCond .eq 10, 3) := by decide +kernel
theorem d_b_total_10 : decode c_b_total 10 = .ok (.aload_n 0, 1) := by decide +kernel
theorem d_b_total_11 : decode c_b_total 11 = .ok (.getfield 51, 3) := by decide +kernel
theorem d_b_total_14 : decode c_b_total 14 = .ok (.iload_n 1, 1) := by decide +kernel
theorem d_b_total_15 : decode c_b_total 15 = .ok (.iaload, 1) := by decide +kernel
theorem d_b_total_16 : decode c_b_total 16 = .ok (.ireturn, 1) := by decide +kernel
theorem d_b_total_17 : decode c_b_total 17 = .ok (.iload_n 1, 1) := by decide +kernel
theorem d_b_total_18 : decode c_b_total 18 = .ok (.tableswitch 188 0 20 #[98, 188, 188, 188, 188, 188, 188, 188, 188, 188, 103, 108, 113, 121, 126, 134, 142, 153, 164, 172, 180], 98) := by decide +kernel
theorem d_b_total_116 : decode c_b_total 116 = .ok (.aload_n 0, 1) := by decide +kernel
theorem d_b_total_117 : decode c_b_total 117 = .ok (.getfield 136, 3) := by decide +kernel
theorem d_b_total_120 : decode c_b_total 120 = .ok (.ireturn, 1) := by decide +kernel
theorem d_b_total_121 : decode c_b_total 121 = .ok (.aload_n 0, 1) := by decide +kernel
theorem d_b_total_122 : decode c_b_total 122 = .ok (.getfield 239, 3) := by decide +kernel
theorem d_b_total_125 : decode c_b_total 125 = .ok (.ireturn, 1) := by decide +kernel
theorem d_b_total_126 : decode c_b_total 126 = .ok (.aload_n 0, 1) := by decide +kernel
theorem d_b_total_127 : decode c_b_total 127 = .ok (.getfield 242, 3) := by decide +kernel
theorem d_b_total_130 : decode c_b_total 130 = .ok (.ireturn, 1) := by decide +kernel
theorem d_b_total_131 : decode c_b_total 131 = .ok (.aload_n 0, 1) := by decide +kernel
theorem d_b_total_132 : decode c_b_total 132 = .ok (.getfield 33, 3) := by decide +kernel
theorem d_b_total_135 : decode c_b_total 135 = .ok (.getfield 245, 3) := by decide +kernel
theorem d_b_total_138 : decode c_b_total 138 = .ok (.ireturn, 1) := by decide +kernel
theorem d_b_total_139 : decode c_b_total 139 = .ok (.aload_n 0, 1) := by decide +kernel
theorem d_b_total_140 : decode c_b_total 140 = .ok (.getfield 148, 3) := by decide +kernel
theorem d_b_total_143 : decode c_b_total 143 = .ok (.ireturn, 1) := by decide +kernel
theorem d_b_total_144 : decode c_b_total 144 = .ok (.aload_n 0, 1) := by decide +kernel
theorem d_b_total_145 : decode c_b_total 145 = .ok (.getfield 33, 3) := by decide +kernel
theorem d_b_total_148 : decode c_b_total 148 = .ok (.getfield 154, 3) := by decide +kernel
theorem d_b_total_151 : decode c_b_total 151 = .ok (.ireturn, 1) := by decide +kernel
theorem d_b_total_152 : decode c_b_total 152 = .ok (.aload_n 0, 1) := by decide +kernel
theorem d_b_total_153 : decode c_b_total 153 = .ok (.getfield 19, 3) := by decide +kernel
theorem d_b_total_156 : decode c_b_total 156 = .ok (.getfield 127, 3) := by decide +kernel
theorem d_b_total_159 : decode c_b_total 159 = .ok (.ireturn, 1) := by decide +kernel
theorem d_b_total_160 : decode c_b_total 160 = .ok (.aload_n 0, 1) := by decide +kernel
theorem d_b_total_161 : decode c_b_total 161 = .ok (.getfield 40, 3) := by decide +kernel
theorem d_b_total_164 : decode c_b_total 164 = .ok (.getfield 116, 3) := by decide +kernel
theorem d_b_total_167 : decode c_b_total 167 = .ok (.invokestatic 206, 3) := by decide +kernel
theorem d_b_total_170 : decode c_b_total 170 = .ok (.ireturn, 1) := by decide +kernel
theorem d_b_total_171 : decode c_b_total 171 = .ok (.aload_n 0, 1) := by decide +kernel
theorem d_b_total_172 : decode c_b_total 172 = .ok (.getfield 19, 3) := by decide +kernel
theorem d_b_total_175 : decode c_b_total 175 = .ok (.invokevirtual 120, 3) := by decide +kernel
theorem d_b_total_178 : decode c_b_total 178 = .ok (.invokestatic 206, 3) := by decide +kernel
theorem d_b_total_181 : decode c_b_total 181 = .ok (.ireturn, 1) := by decide +kernel
theorem d_b_total_182 : decode c_b_total 182 = .ok (.aload_n 0, 1) := by decide +kernel
theorem d_b_total_183 : decode c_b_total 183 = .ok (.invokevirtual 170, 3) := by decide +kernel
theorem d_b_total_186 : decode c_b_total 186 = .ok (.invokestatic 206, 3) := by decide +kernel
theorem d_b_total_189 : decode c_b_total 189 = .ok (.ireturn, 1) := by decide +kernel
theorem d_b_total_190 : decode c_b_total 190 = .ok (.aload_n 0, 1) := by decide +kernel
theorem d_b_total_191 : decode c_b_total 191 = .ok (.getfield 40, 3) := by decide +kernel
theorem d_b_total_194 : decode c_b_total 194 = .ok (.getfield 176, 3) := by decide +kernel
theorem d_b_total_197 : decode c_b_total 197 = .ok (.ireturn, 1) := by decide +kernel
theorem d_b_total_198 : decode c_b_total 198 = .ok (.aload_n 0, 1) := by decide +kernel
theorem d_b_total_199 : decode c_b_total 199 = .ok (.getfield 40, 3) := by decide +kernel
theorem d_b_total_202 : decode c_b_total 202 = .ok (.getfield 173, 3) := by decide +kernel
theorem d_b_total_205 : decode c_b_total 205 = .ok (.ireturn, 1) := by decide +kernel
theorem d_b_total_206 : decode c_b_total 206 = .ok (.new 210, 3) := by decide +kernel
theorem d_b_total_209 : decode c_b_total 209 = .ok (.dup, 1) := by decide +kernel
theorem d_b_total_210 : decode c_b_total 210 = .ok (.invokespecial 212, 3) := by decide +kernel
theorem d_b_total_213 : decode c_b_total 213 = .ok (.athrow, 1) := by decide +kernel
end
section
/-! decode rows -/
theorem d_m_thrown_0 : decode c_m_thrown 0 = .ok (.aload_n 0, 1) := by decide +kernel
theorem d_m_thrown_1 : decode c_m_thrown 1 = .ok (.getfield 44, 3) := by decide +kernel
theorem d_m_thrown_4 : decode c_m_thrown 4 = .ok (.ireturn, 1) := by decide +kernel
theorem d_m_fails_0 : decode c_m_fails 0 = .ok (.aload_n 0, 1) := by decide +kernel
theorem d_m_fails_1 : decode c_m_fails 1 = .ok (.iload_n 1, 1) := by decide +kernel
theorem d_m_fails_2 : decode c_m_fails 2 = .ok (.ifCond .eq 7, 3) := by decide +kernel
theorem d_m_fails_5 : decode c_m_fails 5 = .ok (.iload_n 2, 1) := by decide +kernel
theorem d_m_fails_6 : decode c_m_fails 6 = .ok (.goto 4, 3) := by decide +kernel
theorem d_m_fails_9 : decode c_m_fails 9 = .ok (.iconst 0, 1) := by decide +kernel
theorem d_m_fails_10 : decode c_m_fails 10 = .ok (.putfield 44, 3) := by decide +kernel
theorem d_m_fails_13 : decode c_m_fails 13 = .ok (.iload_n 1, 1) := by decide +kernel
theorem d_m_fails_14 : decode c_m_fails 14 = .ok (.ireturn, 1) := by decide +kernel
theorem d_m_within_0 : decode c_m_within 0 = .ok (.iload_n 0, 1) := by decide +kernel
theorem d_m_within_1 : decode c_m_within 1 = .ok (.iload_n 1, 1) := by decide +kernel
theorem d_m_within_2 : decode c_m_within 2 = .ok (.if_icmp .lt 12, 3) := by decide +kernel
theorem d_m_within_5 : decode c_m_within 5 = .ok (.iload_n 0, 1) := by decide +kernel
theorem d_m_within_6 : decode c_m_within 6 = .ok (.iload_n 2, 1) := by decide +kernel
theorem d_m_within_7 : decode c_m_within 7 = .ok (.if_icmp .gt 7, 3) := by decide +kernel
theorem d_m_within_10 : decode c_m_within 10 = .ok (.iconst 1, 1) := by decide +kernel
theorem d_m_within_11 : decode c_m_within 11 = .ok (.goto 4, 3) := by decide +kernel
theorem d_m_within_14 : decode c_m_within 14 = .ok (.iconst 0, 1) := by decide +kernel
theorem d_m_within_15 : decode c_m_within 15 = .ok (.ireturn, 1) := by decide +kernel
theorem d_m_get_0 : decode c_m_get 0 = .ok (.aload_n 0, 1) := by decide +kernel
theorem d_m_get_1 : decode c_m_get 1 = .ok (.getfield 19, 3) := by decide +kernel
theorem d_m_get_4 : decode c_m_get 4 = .ok (.bipush 20, 2) := by decide +kernel
theorem d_m_get_6 : decode c_m_get 6 = .ok (.iload_n 1, 1) := by decide +kernel
theorem d_m_get_7 : decode c_m_get 7 = .ok (.imul, 1) := by decide +kernel
theorem d_m_get_8 : decode c_m_get 8 = .ok (.iload_n 2, 1) := by decide +kernel
theorem d_m_get_9 : decode c_m_get 9 = .ok (.iadd, 1) := by decide +kernel
theorem d_m_get_10 : decode c_m_get 10 = .ok (.iaload, 1) := by decide +kernel
theorem d_m_get_11 : decode c_m_get 11 = .ok (.ireturn, 1) := by decide +kernel
theorem d_m_put_0 : decode c_m_put 0 = .ok (.aload_n 0, 1) := by decide +kernel
theorem d_m_put_1 : decode c_m_put 1 = .ok (.getfield 19, 3) := by decide +kernel
theorem d_m_put_4 : decode c_m_put 4 = .ok (.bipush 20, 2) := by decide +kernel
theorem d_m_put_6 : decode c_m_put 6 = .ok (.iload_n 1, 1) := by decide +kernel
theorem d_m_put_7 : decode c_m_put 7 = .ok (.imul, 1) := by decide +kernel
theorem d_m_put_8 : decode c_m_put 8 = .ok (.iload_n 2, 1) := by decide +kernel
theorem d_m_put_9 : decode c_m_put 9 = .ok (.iadd, 1) := by decide +kernel
theorem d_m_put_10 : decode c_m_put 10 = .ok (.iload_n 3, 1) := by decide +kernel
theorem d_m_put_11 : decode c_m_put 11 = .ok (.iastore, 1) := by decide +kernel
theorem d_m_put_12 : decode c_m_put 12 = .ok (.return_, 1) := by decide +kernel
theorem d_m_rear_0 : decode c_m_rear 0 = .ok (.aload_n 0, 1) := by decide +kernel
theorem d_m_rear_1 : decode c_m_rear 1 = .ok (.iload_n 1, 1) := by decide +kernel
theorem d_m_rear_2 : decode c_m_rear 2 = .ok (.iconst 2, 1) := by decide +kernel
theorem d_m_rear_3 : decode c_m_rear 3 = .ok (.invokevirtual 48, 3) := by decide +kernel
theorem d_m_rear_6 : decode c_m_rear 6 = .ok (.aload_n 0, 1) := by decide +kernel
theorem d_m_rear_7 : decode c_m_rear 7 = .ok (.iload_n 1, 1) := by decide +kernel
theorem d_m_rear_8 : decode c_m_rear 8 = .ok (.iconst 1, 1) := by decide +kernel
theorem d_m_rear_9 : decode c_m_rear 9 = .ok (.invokevirtual 48, 3) := by decide +kernel
theorem d_m_rear_12 : decode c_m_rear 12 = .ok (.isub, 1) := by decide +kernel
theorem d_m_rear_13 : decode c_m_rear 13 = .ok (.ireturn, 1) := by decide +kernel
theorem d_m_remove_0 : decode c_m_remove 0 = .ok (.aload_n 0, 1) := by decide +kernel
theorem d_m_remove_1 : decode c_m_remove 1 = .ok (.dup, 1) := by decide +kernel
theorem d_m_remove_2 : decode c_m_remove 2 = .ok (.getfield 52, 3) := by decide +kernel
theorem d_m_remove_5 : decode c_m_remove 5 = .ok (.iconst 1, 1) := by decide +kernel
theorem d_m_remove_6 : decode c_m_remove 6 = .ok (.isub, 1) := by decide +kernel
theorem d_m_remove_7 : decode c_m_remove 7 = .ok (.putfield 52, 3) := by decide +kernel
theorem d_m_remove_10 : decode c_m_remove 10 = .ok (.bipush 20, 2) := by decide +kernel
theorem d_m_remove_12 : decode c_m_remove 12 = .ok (.iload_n 1, 1) := by decide +kernel
theorem d_m_remove_13 : decode c_m_remove 13 = .ok (.imul, 1) := by decide +kernel
theorem d_m_remove_14 : decode c_m_remove 14 = .ok (.istore_n 2, 1) := by decide +kernel
theorem d_m_remove_15 : decode c_m_remove 15 = .ok (.iload_n 2, 1) := by decide +kernel
theorem d_m_remove_16 : decode c_m_remove 16 = .ok (.bipush 20, 2) := by decide +kernel
theorem d_m_remove_18 : decode c_m_remove 18 = .ok (.aload_n 0, 1) := by decide +kernel
theorem d_m_remove_19 : decode c_m_remove 19 = .ok (.getfield 52, 3) := by decide +kernel
theorem d_m_remove_22 : decode c_m_remove 22 = .ok (.imul, 1) := by decide +kernel
theorem d_m_remove_23 : decode c_m_remove 23 = .ok (.if_icmp .ge 24, 3) := by decide +kernel
theorem d_m_remove_26 : decode c_m_remove 26 = .ok (.aload_n 0, 1) := by decide +kernel
theorem d_m_remove_27 : decode c_m_remove 27 = .ok (.getfield 19, 3) := by decide +kernel
theorem d_m_remove_30 : decode c_m_remove 30 = .ok (.iload_n 2, 1) := by decide +kernel
theorem d_m_remove_31 : decode c_m_remove 31 = .ok (.aload_n 0, 1) := by decide +kernel
theorem d_m_remove_32 : decode c_m_remove 32 = .ok (.getfield 19, 3) := by decide +kernel
theorem d_m_remove_35 : decode c_m_remove 35 = .ok (.iload_n 2, 1) := by decide +kernel
theorem d_m_remove_36 : decode c_m_remove 36 = .ok (.bipush 20, 2) := by decide +kernel
theorem d_m_remove_38 : decode c_m_remove 38 = .ok (.iadd, 1) := by decide +kernel
theorem d_m_remove_39 : decode c_m_remove 39 = .ok (.iaload, 1) := by decide +kernel
theorem d_m_remove_40 : decode c_m_remove 40 = .ok (.iastore, 1) := by decide +kernel
theorem d_m_remove_41 : decode c_m_remove 41 = .ok (.iinc 2 1, 3) := by decide +kernel
theorem d_m_remove_44 : decode c_m_remove 44 = .ok (.goto (-29), 3) := by decide +kernel
theorem d_m_remove_47 : decode c_m_remove 47 = .ok (.return_, 1) := by decide +kernel
theorem d_m_find_0 : decode c_m_find 0 = .ok (.iconst 0, 1) := by decide +kernel
theorem d_m_find_1 : decode c_m_find 1 = .ok (.istore_n 2, 1) := by decide +kernel
theorem d_m_find_2 : decode c_m_find 2 = .ok (.iload_n 2, 1) := by decide +kernel
theorem d_m_find_3 : decode c_m_find 3 = .ok (.aload_n 0, 1) := by decide +kernel
theorem d_m_find_4 : decode c_m_find 4 = .ok (.getfield 52, 3) := by decide +kernel
theorem d_m_find_7 : decode c_m_find 7 = .ok (.if_icmp .ge 21, 3) := by decide +kernel
theorem d_m_find_10 : decode c_m_find 10 = .ok (.aload_n 0, 1) := by decide +kernel
theorem d_m_find_11 : decode c_m_find 11 = .ok (.iload_n 2, 1) := by decide +kernel
theorem d_m_find_12 : decode c_m_find 12 = .ok (.iconst 0, 1) := by decide +kernel
theorem d_m_find_13 : decode c_m_find 13 = .ok (.invokevirtual 48, 3) := by decide +kernel
theorem d_m_find_16 : decode c_m_find 16 = .ok (.iload_n 1, 1) := by decide +kernel
theorem d_m_find_17 : decode c_m_find 17 = .ok (.if_icmp .ne 5, 3) := by decide +kernel
theorem d_m_find_20 : decode c_m_find 20 = .ok (.iload_n 2, 1) := by decide +kernel
theorem d_m_find_21 : decode c_m_find 21 = .ok (.ireturn, 1) := by decide +kernel
theorem d_m_find_22 : decode c_m_find 22 = .ok (.iinc 2 1, 3) := by decide +kernel
theorem d_m_find_25 : decode c_m_find 25 = .ok (.goto (-23), 3) := by decide +kernel
theorem d_m_find_28 : decode c_m_find 28 = .ok (.iconst (-1), 1) := by decide +kernel
theorem d_m_find_29 : decode c_m_find 29 = .ok (.ireturn, 1) := by decide +kernel
theorem d_m_contour_0 : decode c_m_contour 0 = .ok (.aload_n 0, 1) := by decide +kernel
theorem d_m_contour_1 : decode c_m_contour 1 = .ok (.aload_n 0, 1) := by decide +kernel
theorem d_m_contour_2 : decode c_m_contour 2 = .ok (.getfield 55, 3) := by decide +kernel
theorem d_m_contour_5 : decode c_m_contour 5 = .ok (.iconst 1, 1) := by decide +kernel
theorem d_m_contour_6 : decode c_m_contour 6 = .ok (.invokevirtual 59, 3) := by decide +kernel
theorem d_m_contour_9 : decode c_m_contour 9 = .ok (.ifCond .ne 38, 3) := by decide +kernel
theorem d_m_contour_12 : decode c_m_contour 12 = .ok (.aload_n 0, 1) := by decide +kernel
theorem d_m_contour_13 : decode c_m_contour 13 = .ok (.iload_n 1, 1) := by decide +kernel
theorem d_m_contour_14 : decode c_m_contour 14 = .ok (.iconst 0, 1) := by decide +kernel
theorem d_m_contour_15 : decode c_m_contour 15 = .ok (.bipush 7, 2) := by decide +kernel
theorem d_m_contour_17 : decode c_m_contour 17 = .ok (.invokestatic 63, 3) := by decide +kernel
theorem d_m_contour_20 : decode c_m_contour 20 = .ok (.ifCond .eq 15, 3) := by decide +kernel
theorem d_m_contour_23 : decode c_m_contour 23 = .ok (.iload 4, 2) := by decide +kernel
theorem d_m_contour_25 : decode c_m_contour 25 = .ok (.iconst 0, 1) := by decide +kernel
theorem d_m_contour_26 : decode c_m_contour 26 = .ok (.sipush 2040, 3) := by decide +kernel
theorem d_m_contour_29 : decode c_m_contour 29 = .ok (.invokestatic 63, 3) := by decide +kernel
theorem d_m_contour_32 : decode c_m_contour 32 = .ok (.ifCond .ne 7, 3) := by decide +kernel
theorem d_m_contour_35 : decode c_m_contour 35 = .ok (.iconst 1, 1) := by decide +kernel
theorem d_m_contour_36 : decode c_m_contour 36 = .ok (.goto 4, 3) := by decide +kernel
theorem d_m_contour_39 : decode c_m_contour 39 = .ok (.iconst 0, 1) := by decide +kernel
theorem d_m_contour_40 : decode c_m_contour 40 = .ok (.iconst 2, 1) := by decide +kernel
theorem d_m_contour_41 : decode c_m_contour 41 = .ok (.invokevirtual 59, 3) := by decide +kernel
theorem d_m_contour_44 : decode c_m_contour 44 = .ok (.ifCond .eq 4, 3) := by decide +kernel
theorem d_m_contour_47 : decode c_m_contour 47 = .ok (.return_, 1) := by decide +kernel
theorem d_m_contour_48 : decode c_m_contour 48 = .ok (.iconst 0, 1) := by decide +kernel
theorem d_m_contour_49 : decode c_m_contour 49 = .ok (.istore 5, 2) := by decide +kernel
theorem d_m_contour_51 : decode c_m_contour 51 = .ok (.iload 5, 2) := by decide +kernel
theorem d_m_contour_53 : decode c_m_contour 53 = .ok (.bipush 8, 2) := by decide +kernel
theorem d_m_contour_55 : decode c_m_contour 55 = .ok (.if_icmp .ge 47, 3) := by decide +kernel
theorem d_m_contour_58 : decode c_m_contour 58 = .ok (.aload_n 0, 1) := by decide +kernel
theorem d_m_contour_59 : decode c_m_contour 59 = .ok (.getfield 7, 3) := by decide +kernel
theorem d_m_contour_62 : decode c_m_contour 62 = .ok (.bipush 8, 2) := by decide +kernel
theorem d_m_contour_64 : decode c_m_contour 64 = .ok (.iload_n 1, 1) := by decide +kernel
theorem d_m_contour_65 : decode c_m_contour 65 = .ok (.imul, 1) := by decide +kernel
theorem d_m_contour_66 : decode c_m_contour 66 = .ok (.iload 5, 2) := by decide +kernel
theorem d_m_contour_68 : decode c_m_contour 68 = .ok (.iadd, 1) := by decide +kernel
theorem d_m_contour_69 : decode c_m_contour 69 = .ok (.iload 5, 2) := by decide +kernel
theorem d_m_contour_71 : decode c_m_contour 71 = .ok (.iconst 4, 1) := by decide +kernel
theorem d_m_contour_72 : decode c_m_contour 72 = .ok (.if_icmp .ge 7, 3) := by decide +kernel
theorem d_m_contour_75 : decode c_m_contour 75 = .ok (.iload_n 2, 1) := by decide +kernel
theorem d_m_contour_76 : decode c_m_contour 76 = .ok (.goto 4, 3) := by decide +kernel
theorem d_m_contour_79 : decode c_m_contour 79 = .ok (.iload_n 3, 1) := by decide +kernel
theorem d_m_contour_80 : decode c_m_contour 80 = .ok (.bipush 24, 2) := by decide +kernel
theorem d_m_contour_82 : decode c_m_contour 82 = .ok (.bipush 8, 2) := by decide +kernel
theorem d_m_contour_84 : decode c_m_contour 84 = .ok (.iload 5, 2) := by decide +kernel
theorem d_m_contour_86 : decode c_m_contour 86 = .ok (.iconst 4, 1) := by decide +kernel
theorem d_m_contour_87 : decode c_m_contour 87 = .ok (.irem, 1) := by decide +kernel
theorem d_m_contour_88 : decode c_m_contour 88 = .ok (.imul, 1) := by decide +kernel
theorem d_m_contour_89 : decode c_m_contour 89 = .ok (.isub, 1) := by decide +kernel
theorem d_m_contour_90 : decode c_m_contour 90 = .ok (.ishr, 1) := by decide +kernel
theorem d_m_contour_91 : decode c_m_contour 91 = .ok (.sipush 255, 3) := by decide +kernel
theorem d_m_contour_94 : decode c_m_contour 94 = .ok (.iand, 1) := by decide +kernel
theorem d_m_contour_95 : decode c_m_contour 95 = .ok (.iastore, 1) := by decide +kernel
theorem d_m_contour_96 : decode c_m_contour 96 = .ok (.iinc 5 1, 3) := by decide +kernel
theorem d_m_contour_99 : decode c_m_contour 99 = .ok (.goto (-48), 3) := by decide +kernel
theorem d_m_contour_102 : decode c_m_contour 102 = .ok (.aload_n 0, 1) := by decide +kernel
theorem d_m_contour_103 : decode c_m_contour 103 = .ok (.getfield 13, 3) := by decide +kernel
theorem d_m_contour_106 : decode c_m_contour 106 = .ok (.iload_n 1, 1) := by decide +kernel
theorem d_m_contour_107 : decode c_m_contour 107 = .ok (.iload 4, 2) := by decide +kernel
theorem d_m_contour_109 : decode c_m_contour 109 = .ok (.iastore, 1) := by decide +kernel
theorem d_m_contour_110 : decode c_m_contour 110 = .ok (.return_, 1) := by decide +kernel
theorem d_m_kindOf_0 : decode c_m_kindOf 0 = .ok (.iconst 0, 1) := by decide +kernel
theorem d_m_kindOf_1 : decode c_m_kindOf 1 = .ok (.istore_n 2, 1) := by decide +kernel
theorem d_m_kindOf_2 : decode c_m_kindOf 2 = .ok (.iload_n 2, 1) := by decide +kernel
theorem d_m_kindOf_3 : decode c_m_kindOf 3 = .ok (.bipush 40, 2) := by decide +kernel
theorem d_m_kindOf_5 : decode c_m_kindOf 5 = .ok (.if_icmp .ge 24, 3) := by decide +kernel
theorem d_m_kindOf_8 : decode c_m_kindOf 8 = .ok (.aload_n 0, 1) := by decide +kernel
theorem d_m_kindOf_9 : decode c_m_kindOf 9 = .ok (.getfield 16, 3) := by decide +kernel
theorem d_m_kindOf_12 : decode c_m_kindOf 12 = .ok (.bipush 6, 2) := by decide +kernel
theorem d_m_kindOf_14 : decode c_m_kindOf 14 = .ok (.iload_n 2, 1) := by decide +kernel
theorem d_m_kindOf_15 : decode c_m_kindOf 15 = .ok (.imul, 1) := by decide +kernel
theorem d_m_kindOf_16 : decode c_m_kindOf 16 = .ok (.iaload, 1) := by decide +kernel
theorem d_m_kindOf_17 : decode c_m_kindOf 17 = .ok (.iload_n 1, 1) := by decide +kernel
theorem d_m_kindOf_18 : decode c_m_kindOf 18 = .ok (.if_icmp .ne 5, 3) := by decide +kernel
theorem d_m_kindOf_21 : decode c_m_kindOf 21 = .ok (.iload_n 2, 1) := by decide +kernel
theorem d_m_kindOf_22 : decode c_m_kindOf 22 = .ok (.ireturn, 1) := by decide +kernel
theorem d_m_kindOf_23 : decode c_m_kindOf 23 = .ok (.iinc 2 1, 3) := by decide +kernel
theorem d_m_kindOf_26 : decode c_m_kindOf 26 = .ok (.goto (-24), 3) := by decide +kernel
theorem d_m_kindOf_29 : decode c_m_kindOf 29 = .ok (.iconst (-1), 1) := by decide +kernel
theorem d_m_kindOf_30 : decode c_m_kindOf 30 = .ok (.ireturn, 1) := by decide +kernel
theorem d_m_kind_0 : decode c_m_kind 0 = .ok (.iload_n 1, 1) := by decide +kernel
theorem d_m_kind_1 : decode c_m_kind 1 = .ok (.iconst 0, 1) := by decide +kernel
theorem d_m_kind_2 : decode c_m_kind 2 = .ok (.bipush 39, 2) := by decide +kernel
theorem d_m_kind_4 : decode c_m_kind 4 = .ok (.invokestatic 63, 3) := by decide +kernel
theorem d_m_kind_7 : decode c_m_kind 7 = .ok (.ifCond .eq 80, 3) := by decide +kernel
theorem d_m_kind_10 : decode c_m_kind 10 = .ok (.iload_n 2, 1) := by decide +kernel
theorem d_m_kind_11 : decode c_m_kind 11 = .ok (.iconst 1, 1) := by decide +kernel
theorem d_m_kind_12 : decode c_m_kind 12 = .ok (.ldc 67, 2) := by decide +kernel
theorem d_m_kind_14 : decode c_m_kind 14 = .ok (.invokestatic 63, 3) := by decide +kernel
theorem d_m_kind_17 : decode c_m_kind 17 = .ok (.ifCond .eq 70, 3) := by decide +kernel
theorem d_m_kind_20 : decode c_m_kind 20 = .ok (.iload_n 3, 1) := by decide +kernel
theorem d_m_kind_21 : decode c_m_kind 21 = .ok (.iconst 1, 1) := by decide +kernel
theorem d_m_kind_22 : decode c_m_kind 22 = .ok (.sipush 500, 3) := by decide +kernel
theorem d_m_kind_25 : decode c_m_kind 25 = .ok (.invokestatic 63, 3) := by decide +kernel
theorem d_m_kind_28 : decode c_m_kind 28 = .ok (.ifCond .eq 59, 3) := by decide +kernel
theorem d_m_kind_31 : decode c_m_kind 31 = .ok (.iload 4, 2) := by decide +kernel
theorem d_m_kind_33 : decode c_m_kind 33 = .ok (.iconst 0, 1) := by decide +kernel
theorem d_m_kind_34 : decode c_m_kind 34 = .ok (.iconst 2, 1) := by decide +kernel
theorem d_m_kind_35 : decode c_m_kind 35 = .ok (.invokestatic 63, 3) := by decide +kernel
theorem d_m_kind_38 : decode c_m_kind 38 = .ok (.ifCond .eq 49, 3) := by decide +kernel
theorem d_m_kind_41 : decode c_m_kind 41 = .ok (.iload 5, 2) := by decide +kernel
theorem d_m_kind_43 : decode c_m_kind 43 = .ok (.iconst 0, 1) := by decide +kernel
theorem d_m_kind_44 : decode c_m_kind 44 = .ok (.sipush 5000, 3) := by decide +kernel
theorem d_m_kind_47 : decode c_m_kind 47 = .ok (.invokestatic 63, 3) := by decide +kernel
theorem d_m_kind_50 : decode c_m_kind 50 = .ok (.ifCond .eq 37, 3) := by decide +kernel
theorem d_m_kind_53 : decode c_m_kind 53 = .ok (.iload 6, 2) := by decide +kernel
theorem d_m_kind_55 : decode c_m_kind 55 = .ok (.iconst 0, 1) := by decide +kernel
theorem d_m_kind_56 : decode c_m_kind 56 = .ok (.sipush 5000, 3) := by decide +kernel
theorem d_m_kind_59 : decode c_m_kind 59 = .ok (.invokestatic 63, 3) := by decide +kernel
theorem d_m_kind_62 : decode c_m_kind 62 = .ok (.ifCond .eq 25, 3) := by decide +kernel
theorem d_m_kind_65 : decode c_m_kind 65 = .ok (.iload 5, 2) := by decide +kernel
theorem d_m_kind_67 : decode c_m_kind 67 = .ok (.iload 6, 2) := by decide +kernel
theorem d_m_kind_69 : decode c_m_kind 69 = .ok (.if_icmp .gt 18, 3) := by decide +kernel
theorem d_m_kind_72 : decode c_m_kind 72 = .ok (.iload 7, 2) := by decide +kernel
theorem d_m_kind_74 : decode c_m_kind 74 = .ok (.iconst 0, 1) := by decide +kernel
theorem d_m_kind_75 : decode c_m_kind 75 = .ok (.bipush 7, 2) := by decide +kernel
theorem d_m_kind_77 : decode c_m_kind 77 = .ok (.invokestatic 63, 3) := by decide +kernel
theorem d_m_kind_80 : decode c_m_kind 80 = .ok (.ifCond .eq 7, 3) := by decide +kernel
theorem d_m_kind_83 : decode c_m_kind 83 = .ok (.iconst 1, 1) := by decide +kernel
theorem d_m_kind_84 : decode c_m_kind 84 = .ok (.goto 4, 3) := by decide +kernel
theorem d_m_kind_87 : decode c_m_kind 87 = .ok (.iconst 0, 1) := by decide +kernel
theorem d_m_kind_88 : decode c_m_kind 88 = .ok (.istore 8, 2) := by decide +kernel
theorem d_m_kind_90 : decode c_m_kind 90 = .ok (.aload_n 0, 1) := by decide +kernel
theorem d_m_kind_91 : decode c_m_kind 91 = .ok (.aload_n 0, 1) := by decide +kernel
theorem d_m_kind_92 : decode c_m_kind 92 = .ok (.getfield 55, 3) := by decide +kernel
theorem d_m_kind_95 : decode c_m_kind 95 = .ok (.ifCond .ne 10, 3) := by decide +kernel
theorem d_m_kind_98 : decode c_m_kind 98 = .ok (.aload_n 0, 1) := by decide +kernel
theorem d_m_kind_99 : decode c_m_kind 99 = .ok (.getfield 52, 3) := by decide +kernel
theorem d_m_kind_102 : decode c_m_kind 102 = .ok (.ifCond .le 7, 3) := by decide +kernel
theorem d_m_kind_105 : decode c_m_kind 105 = .ok (.iconst 1, 1) := by decide +kernel
theorem d_m_kind_106 : decode c_m_kind 106 = .ok (.goto 4, 3) := by decide +kernel
theorem d_m_kind_109 : decode c_m_kind 109 = .ok (.iconst 0, 1) := by decide +kernel
theorem d_m_kind_110 : decode c_m_kind 110 = .ok (.iconst 1, 1) := by decide +kernel
theorem d_m_kind_111 : decode c_m_kind 111 = .ok (.invokevirtual 59, 3) := by decide +kernel
theorem d_m_kind_114 : decode c_m_kind 114 = .ok (.ifCond .ne 21, 3) := by decide +kernel
theorem d_m_kind_117 : decode c_m_kind 117 = .ok (.aload_n 0, 1) := by decide +kernel
theorem d_m_kind_118 : decode c_m_kind 118 = .ok (.iload 8, 2) := by decide +kernel
theorem d_m_kind_120 : decode c_m_kind 120 = .ok (.ifCond .ne 7, 3) := by decide +kernel
theorem d_m_kind_123 : decode c_m_kind 123 = .ok (.iconst 1, 1) := by decide +kernel
theorem d_m_kind_124 : decode c_m_kind 124 = .ok (.goto 4, 3) := by decide +kernel
theorem d_m_kind_127 : decode c_m_kind 127 = .ok (.iconst 0, 1) := by decide +kernel
theorem d_m_kind_128 : decode c_m_kind 128 = .ok (.iconst 2, 1) := by decide +kernel
theorem d_m_kind_129 : decode c_m_kind 129 = .ok (.invokevirtual 59, 3) := by decide +kernel
theorem d_m_kind_132 : decode c_m_kind 132 = .ok (.ifCond .eq 5, 3) := by decide +kernel
theorem d_m_kind_135 : decode c_m_kind 135 = .ok (.iconst 0, 1) := by decide +kernel
theorem d_m_kind_136 : decode c_m_kind 136 = .ok (.ireturn, 1) := by decide +kernel
theorem d_m_kind_137 : decode c_m_kind 137 = .ok (.aload_n 0, 1) := by decide +kernel
theorem d_m_kind_138 : decode c_m_kind 138 = .ok (.iload_n 2, 1) := by decide +kernel
theorem d_m_kind_139 : decode c_m_kind 139 = .ok (.invokevirtual 68, 3) := by decide +kernel
theorem d_m_kind_142 : decode c_m_kind 142 = .ok (.istore 9, 2) := by decide +kernel
theorem d_m_kind_144 : decode c_m_kind 144 = .ok (.iload 9, 2) := by decide +kernel
theorem d_m_kind_146 : decode c_m_kind 146 = .ok (.iconst (-1), 1) := by decide +kernel
theorem d_m_kind_147 : decode c_m_kind 147 = .ok (.if_icmp .eq 14, 3) := by decide +kernel
theorem d_m_kind_150 : decode c_m_kind 150 = .ok (.aload_n 0, 1) := by decide +kernel
theorem d_m_kind_151 : decode c_m_kind 151 = .ok (.getfield 16, 3) := by decide +kernel
theorem d_m_kind_154 : decode c_m_kind 154 = .ok (.bipush 6, 2) := by decide +kernel
theorem d_m_kind_156 : decode c_m_kind 156 = .ok (.iload 9, 2) := by decide +kernel
theorem d_m_kind_158 : decode c_m_kind 158 = .ok (.imul, 1) := by decide +kernel
theorem d_m_kind_159 : decode c_m_kind 159 = .ok (.iconst 0, 1) := by decide +kernel
theorem d_m_kind_160 : decode c_m_kind 160 = .ok (.iastore, 1) := by decide +kernel
theorem d_m_kind_161 : decode c_m_kind 161 = .ok (.bipush 6, 2) := by decide +kernel
theorem d_m_kind_163 : decode c_m_kind 163 = .ok (.iload_n 1, 1) := by decide +kernel
theorem d_m_kind_164 : decode c_m_kind 164 = .ok (.imul, 1) := by decide +kernel
theorem d_m_kind_165 : decode c_m_kind 165 = .ok (.istore 10, 2) := by decide +kernel
theorem d_m_kind_167 : decode c_m_kind 167 = .ok (.aload_n 0, 1) := by decide +kernel
theorem d_m_kind_168 : decode c_m_kind 168 = .ok (.getfield 16, 3) := by decide +kernel
theorem d_m_kind_171 : decode c_m_kind 171 = .ok (.iload 10, 2) := by decide +kernel
theorem d_m_kind_173 : decode c_m_kind 173 = .ok (.iload_n 2, 1) := by decide +kernel
theorem d_m_kind_174 : decode c_m_kind 174 = .ok (.iastore, 1) := by decide +kernel
theorem d_m_kind_175 : decode c_m_kind 175 = .ok (.aload_n 0, 1) := by decide +kernel
theorem d_m_kind_176 : decode c_m_kind 176 = .ok (.getfield 16, 3) := by decide +kernel
theorem d_m_kind_179 : decode c_m_kind 179 = .ok (.iload 10, 2) := by decide +kernel
theorem d_m_kind_181 : decode c_m_kind 181 = .ok (.iconst 1, 1) := by decide +kernel
theorem d_m_kind_182 : decode c_m_kind 182 = .ok (.iadd, 1) := by decide +kernel
theorem d_m_kind_183 : decode c_m_kind 183 = .ok (.iload_n 3, 1) := by decide +kernel
theorem d_m_kind_184 : decode c_m_kind 184 = .ok (.iastore, 1) := by decide +kernel
theorem d_m_kind_185 : decode c_m_kind 185 = .ok (.aload_n 0, 1) := by decide +kernel
theorem d_m_kind_186 : decode c_m_kind 186 = .ok (.getfield 16, 3) := by decide +kernel
theorem d_m_kind_189 : decode c_m_kind 189 = .ok (.iload 10, 2) := by decide +kernel
theorem d_m_kind_191 : decode c_m_kind 191 = .ok (.iconst 2, 1) := by decide +kernel
theorem d_m_kind_192 : decode c_m_kind 192 = .ok (.iadd, 1) := by decide +kernel
theorem d_m_kind_193 : decode c_m_kind 193 = .ok (.iload 4, 2) := by decide +kernel
theorem d_m_kind_195 : decode c_m_kind 195 = .ok (.iastore, 1) := by decide +kernel
theorem d_m_kind_196 : decode c_m_kind 196 = .ok (.aload_n 0, 1) := by decide +kernel
theorem d_m_kind_197 : decode c_m_kind 197 = .ok (.getfield 16, 3) := by decide +kernel
theorem d_m_kind_200 : decode c_m_kind 200 = .ok (.iload 10, 2) := by decide +kernel
theorem d_m_kind_202 : decode c_m_kind 202 = .ok (.iconst 3, 1) := by decide +kernel
theorem d_m_kind_203 : decode c_m_kind 203 = .ok (.iadd, 1) := by decide +kernel
theorem d_m_kind_204 : decode c_m_kind 204 = .ok (.iload 5, 2) := by decide +kernel
theorem d_m_kind_206 : decode c_m_kind 206 = .ok (.iastore, 1) := by decide +kernel
theorem d_m_kind_207 : decode c_m_kind 207 = .ok (.aload_n 0, 1) := by decide +kernel
theorem d_m_kind_208 : decode c_m_kind 208 = .ok (.getfield 16, 3) := by decide +kernel
theorem d_m_kind_211 : decode c_m_kind 211 = .ok (.iload 10, 2) := by decide +kernel
theorem d_m_kind_213 : decode c_m_kind 213 = .ok (.iconst 4, 1) := by decide +kernel
theorem d_m_kind_214 : decode c_m_kind 214 = .ok (.iadd, 1) := by decide +kernel
theorem d_m_kind_215 : decode c_m_kind 215 = .ok (.iload 6, 2) := by decide +kernel
theorem d_m_kind_217 : decode c_m_kind 217 = .ok (.iastore, 1) := by decide +kernel
theorem d_m_kind_218 : decode c_m_kind 218 = .ok (.aload_n 0, 1) := by decide +kernel
theorem d_m_kind_219 : decode c_m_kind 219 = .ok (.getfield 16, 3) := by decide +kernel
theorem d_m_kind_222 : decode c_m_kind 222 = .ok (.iload 10, 2) := by decide +kernel
theorem d_m_kind_224 : decode c_m_kind 224 = .ok (.iconst 5, 1) := by decide +kernel
theorem d_m_kind_225 : decode c_m_kind 225 = .ok (.iadd, 1) := by decide +kernel
theorem d_m_kind_226 : decode c_m_kind 226 = .ok (.iload 7, 2) := by decide +kernel
theorem d_m_kind_228 : decode c_m_kind 228 = .ok (.iastore, 1) := by decide +kernel
theorem d_m_kind_229 : decode c_m_kind 229 = .ok (.iload 9, 2) := by decide +kernel
theorem d_m_kind_231 : decode c_m_kind 231 = .ok (.ireturn, 1) := by decide +kernel
theorem d_m_enter_0 : decode c_m_enter 0 = .ok (.aload_n 0, 1) := by decide +kernel
theorem d_m_enter_1 : decode c_m_enter 1 = .ok (.aload_n 0, 1) := by decide +kernel
theorem d_m_enter_2 : decode c_m_enter 2 = .ok (.getfield 55, 3) := by decide +kernel
theorem d_m_enter_5 : decode c_m_enter 5 = .ok (.iconst 1, 1) := by decide +kernel
theorem d_m_enter_6 : decode c_m_enter 6 = .ok (.invokevirtual 59, 3) := by decide +kernel
theorem d_m_enter_9 : decode c_m_enter 9 = .ok (.ifCond .ne 26, 3) := by decide +kernel
theorem d_m_enter_12 : decode c_m_enter 12 = .ok (.aload_n 0, 1) := by decide +kernel
theorem d_m_enter_13 : decode c_m_enter 13 = .ok (.iload_n 1, 1) := by decide +kernel
theorem d_m_enter_14 : decode c_m_enter 14 = .ok (.iconst 5, 1) := by decide +kernel
theorem d_m_enter_15 : decode c_m_enter 15 = .ok (.bipush 40, 2) := by decide +kernel
theorem d_m_enter_17 : decode c_m_enter 17 = .ok (.invokestatic 63, 3) := by decide +kernel
theorem d_m_enter_20 : decode c_m_enter 20 = .ok (.ifCond .ne 7, 3) := by decide +kernel
theorem d_m_enter_23 : decode c_m_enter 23 = .ok (.iconst 1, 1) := by decide +kernel
theorem d_m_enter_24 : decode c_m_enter 24 = .ok (.goto 4, 3) := by decide +kernel
theorem d_m_enter_27 : decode c_m_enter 27 = .ok (.iconst 0, 1) := by decide +kernel
theorem d_m_enter_28 : decode c_m_enter 28 = .ok (.iconst 2, 1) := by decide +kernel
theorem d_m_enter_29 : decode c_m_enter 29 = .ok (.invokevirtual 59, 3) := by decide +kernel
theorem d_m_enter_32 : decode c_m_enter 32 = .ok (.ifCond .eq 5, 3) := by decide +kernel
theorem d_m_enter_35 : decode c_m_enter 35 = .ok (.iconst 0, 1) := by decide +kernel
theorem d_m_enter_36 : decode c_m_enter 36 = .ok (.ireturn, 1) := by decide +kernel
theorem d_m_enter_37 : decode c_m_enter 37 = .ok (.aload_n 0, 1) := by decide +kernel
theorem d_m_enter_38 : decode c_m_enter 38 = .ok (.getfield 52, 3) := by decide +kernel
theorem d_m_enter_41 : decode c_m_enter 41 = .ok (.ifCond .le 19, 3) := by decide +kernel
theorem d_m_enter_44 : decode c_m_enter 44 = .ok (.aload_n 0, 1) := by decide +kernel
theorem d_m_enter_45 : decode c_m_enter 45 = .ok (.aload_n 0, 1) := by decide +kernel
theorem d_m_enter_46 : decode c_m_enter 46 = .ok (.getfield 52, 3) := by decide +kernel
theorem d_m_enter_49 : decode c_m_enter 49 = .ok (.iconst 1, 1) := by decide +kernel
theorem d_m_enter_50 : decode c_m_enter 50 = .ok (.isub, 1) := by decide +kernel
theorem d_m_enter_51 : decode c_m_enter 51 = .ok (.invokevirtual 72, 3) := by decide +kernel
theorem d_m_enter_54 : decode c_m_enter 54 = .ok (.iconst 4, 1) := by decide +kernel
theorem d_m_enter_55 : decode c_m_enter 55 = .ok (.if_icmp .ge 5, 3) := by decide +kernel
theorem d_m_enter_58 : decode c_m_enter 58 = .ok (.iconst 0, 1) := by decide +kernel
theorem d_m_enter_59 : decode c_m_enter 59 = .ok (.ireturn, 1) := by decide +kernel
theorem d_m_enter_60 : decode c_m_enter 60 = .ok (.aload_n 0, 1) := by decide +kernel
theorem d_m_enter_61 : decode c_m_enter 61 = .ok (.dup, 1) := by decide +kernel
theorem d_m_enter_62 : decode c_m_enter 62 = .ok (.getfield 75, 3) := by decide +kernel
theorem d_m_enter_65 : decode c_m_enter 65 = .ok (.iconst 1, 1) := by decide +kernel
theorem d_m_enter_66 : decode c_m_enter 66 = .ok (.iadd, 1) := by decide +kernel
theorem d_m_enter_67 : decode c_m_enter 67 = .ok (.putfield 75, 3) := by decide +kernel
theorem d_m_enter_70 : decode c_m_enter 70 = .ok (.iconst 0, 1) := by decide +kernel
theorem d_m_enter_71 : decode c_m_enter 71 = .ok (.istore_n 2, 1) := by decide +kernel
theorem d_m_enter_72 : decode c_m_enter 72 = .ok (.iload_n 2, 1) := by decide +kernel
theorem d_m_enter_73 : decode c_m_enter 73 = .ok (.bipush 20, 2) := by decide +kernel
theorem d_m_enter_75 : decode c_m_enter 75 = .ok (.if_icmp .ge 19, 3) := by decide +kernel
theorem d_m_enter_78 : decode c_m_enter 78 = .ok (.aload_n 0, 1) := by decide +kernel
theorem d_m_enter_79 : decode c_m_enter 79 = .ok (.aload_n 0, 1) := by decide +kernel
theorem d_m_enter_80 : decode c_m_enter 80 = .ok (.getfield 52, 3) := by decide +kernel
theorem d_m_enter_83 : decode c_m_enter 83 = .ok (.iload_n 2, 1) := by decide +kernel
theorem d_m_enter_84 : decode c_m_enter 84 = .ok (.iconst 0, 1) := by decide +kernel
theorem d_m_enter_85 : decode c_m_enter 85 = .ok (.invokevirtual 78, 3) := by decide +kernel
theorem d_m_enter_88 : decode c_m_enter 88 = .ok (.iinc 2 1, 3) := by decide +kernel
theorem d_m_enter_91 : decode c_m_enter 91 = .ok (.goto (-19), 3) := by decide +kernel
theorem d_m_enter_94 : decode c_m_enter 94 = .ok (.aload_n 0, 1) := by decide +kernel
theorem d_m_enter_95 : decode c_m_enter 95 = .ok (.aload_n 0, 1) := by decide +kernel
theorem d_m_enter_96 : decode c_m_enter 96 = .ok (.getfield 52, 3) := by decide +kernel
theorem d_m_enter_99 : decode c_m_enter 99 = .ok (.iconst 0, 1) := by decide +kernel
theorem d_m_enter_100 : decode c_m_enter 100 = .ok (.aload_n 0, 1) := by decide +kernel
theorem d_m_enter_101 : decode c_m_enter 101 = .ok (.getfield 75, 3) := by decide +kernel
theorem d_m_enter_104 : decode c_m_enter 104 = .ok (.invokevirtual 78, 3) := by decide +kernel
theorem d_m_enter_107 : decode c_m_enter 107 = .ok (.aload_n 0, 1) := by decide +kernel
theorem d_m_enter_108 : decode c_m_enter 108 = .ok (.aload_n 0, 1) := by decide +kernel
theorem d_m_enter_109 : decode c_m_enter 109 = .ok (.getfield 52, 3) := by decide +kernel
theorem d_m_enter_112 : decode c_m_enter 112 = .ok (.iconst 1, 1) := by decide +kernel
theorem d_m_enter_113 : decode c_m_enter 113 = .ok (.iload_n 1, 1) := by decide +kernel
theorem d_m_enter_114 : decode c_m_enter 114 = .ok (.invokevirtual 78, 3) := by decide +kernel
theorem d_m_enter_117 : decode c_m_enter 117 = .ok (.aload_n 0, 1) := by decide +kernel
theorem d_m_enter_118 : decode c_m_enter 118 = .ok (.aload_n 0, 1) := by decide +kernel
theorem d_m_enter_119 : decode c_m_enter 119 = .ok (.getfield 52, 3) := by decide +kernel
theorem d_m_enter_122 : decode c_m_enter 122 = .ok (.iconst 4, 1) := by decide +kernel
theorem d_m_enter_123 : decode c_m_enter 123 = .ok (.iconst (-1), 1) := by decide +kernel
theorem d_m_enter_124 : decode c_m_enter 124 = .ok (.invokevirtual 78, 3) := by decide +kernel
theorem d_m_enter_127 : decode c_m_enter 127 = .ok (.aload_n 0, 1) := by decide +kernel
theorem d_m_enter_128 : decode c_m_enter 128 = .ok (.aload_n 0, 1) := by decide +kernel
theorem d_m_enter_129 : decode c_m_enter 129 = .ok (.getfield 52, 3) := by decide +kernel
theorem d_m_enter_132 : decode c_m_enter 132 = .ok (.bipush 6, 2) := by decide +kernel
theorem d_m_enter_134 : decode c_m_enter 134 = .ok (.iconst (-1), 1) := by decide +kernel
theorem d_m_enter_135 : decode c_m_enter 135 = .ok (.invokevirtual 78, 3) := by decide +kernel
theorem d_m_enter_138 : decode c_m_enter 138 = .ok (.aload_n 0, 1) := by decide +kernel
theorem d_m_enter_139 : decode c_m_enter 139 = .ok (.dup, 1) := by decide +kernel
theorem d_m_enter_140 : decode c_m_enter 140 = .ok (.getfield 52, 3) := by decide +kernel
theorem d_m_enter_143 : decode c_m_enter 143 = .ok (.iconst 1, 1) := by decide +kernel
theorem d_m_enter_144 : decode c_m_enter 144 = .ok (.iadd, 1) := by decide +kernel
theorem d_m_enter_145 : decode c_m_enter 145 = .ok (.putfield 52, 3) := by decide +kernel
theorem d_m_enter_148 : decode c_m_enter 148 = .ok (.aload_n 0, 1) := by decide +kernel
theorem d_m_enter_149 : decode c_m_enter 149 = .ok (.getfield 75, 3) := by decide +kernel
theorem d_m_enter_152 : decode c_m_enter 152 = .ok (.ireturn, 1) := by decide +kernel
theorem d_m_over_0 : decode c_m_over 0 = .ok (.iconst 0, 1) := by decide +kernel
theorem d_m_over_1 : decode c_m_over 1 = .ok (.istore_n 2, 1) := by decide +kernel
theorem d_m_over_2 : decode c_m_over 2 = .ok (.iload_n 2, 1) := by decide +kernel
theorem d_m_over_3 : decode c_m_over 3 = .ok (.aload_n 0, 1) := by decide +kernel
theorem d_m_over_4 : decode c_m_over 4 = .ok (.getfield 52, 3) := by decide +kernel
theorem d_m_over_7 : decode c_m_over 7 = .ok (.if_icmp .ge 30, 3) := by decide +kernel
theorem d_m_over_10 : decode c_m_over 10 = .ok (.aload_n 0, 1) := by decide +kernel
theorem d_m_over_11 : decode c_m_over 11 = .ok (.iload_n 2, 1) := by decide +kernel
theorem d_m_over_12 : decode c_m_over 12 = .ok (.invokevirtual 72, 3) := by decide +kernel
theorem d_m_over_15 : decode c_m_over 15 = .ok (.iload_n 1, 1) := by decide +kernel
theorem d_m_over_16 : decode c_m_over 16 = .ok (.if_icmp .ge 15, 3) := by decide +kernel
theorem d_m_over_19 : decode c_m_over 19 = .ok (.aload_n 0, 1) := by decide +kernel
theorem d_m_over_20 : decode c_m_over 20 = .ok (.iload_n 2, 1) := by decide +kernel
theorem d_m_over_21 : decode c_m_over 21 = .ok (.iconst 2, 1) := by decide +kernel
theorem d_m_over_22 : decode c_m_over 22 = .ok (.invokevirtual 48, 3) := by decide +kernel
theorem d_m_over_25 : decode c_m_over 25 = .ok (.iload_n 1, 1) := by decide +kernel
theorem d_m_over_26 : decode c_m_over 26 = .ok (.if_icmp .lt 5, 3) := by decide +kernel
theorem d_m_over_29 : decode c_m_over 29 = .ok (.iload_n 2, 1) := by decide +kernel
theorem d_m_over_30 : decode c_m_over 30 = .ok (.ireturn, 1) := by decide +kernel
theorem d_m_over_31 : decode c_m_over 31 = .ok (.iinc 2 1, 3) := by decide +kernel
theorem d_m_over_34 : decode c_m_over 34 = .ok (.goto (-32), 3) := by decide +kernel
theorem d_m_over_37 : decode c_m_over 37 = .ok (.iconst (-1), 1) := by decide +kernel
theorem d_m_over_38 : decode c_m_over 38 = .ok (.ireturn, 1) := by decide +kernel
theorem d_m_code_0 : decode c_m_code 0 = .ok (.aload_n 0, 1) := by decide +kernel
theorem d_m_code_1 : decode c_m_code 1 = .ok (.aload_n 0, 1) := by decide +kernel
theorem d_m_code_2 : decode c_m_code 2 = .ok (.getfield 55, 3) := by decide +kernel
theorem d_m_code_5 : decode c_m_code 5 = .ok (.iconst 1, 1) := by decide +kernel
theorem d_m_code_6 : decode c_m_code 6 = .ok (.invokevirtual 59, 3) := by decide +kernel
theorem d_m_code_9 : decode c_m_code 9 = .ok (.ifCond .ne 26, 3) := by decide +kernel
theorem d_m_code_12 : decode c_m_code 12 = .ok (.aload_n 0, 1) := by decide +kernel
theorem d_m_code_13 : decode c_m_code 13 = .ok (.iload_n 1, 1) := by decide +kernel
theorem d_m_code_14 : decode c_m_code 14 = .ok (.iconst 1, 1) := by decide +kernel
theorem d_m_code_15 : decode c_m_code 15 = .ok (.ldc 67, 2) := by decide +kernel
theorem d_m_code_17 : decode c_m_code 17 = .ok (.invokestatic 63, 3) := by decide +kernel
theorem d_m_code_20 : decode c_m_code 20 = .ok (.ifCond .ne 7, 3) := by decide +kernel
theorem d_m_code_23 : decode c_m_code 23 = .ok (.iconst 1, 1) := by decide +kernel
theorem d_m_code_24 : decode c_m_code 24 = .ok (.goto 4, 3) := by decide +kernel
theorem d_m_code_27 : decode c_m_code 27 = .ok (.iconst 0, 1) := by decide +kernel
theorem d_m_code_28 : decode c_m_code 28 = .ok (.iconst 2, 1) := by decide +kernel
theorem d_m_code_29 : decode c_m_code 29 = .ok (.invokevirtual 59, 3) := by decide +kernel
theorem d_m_code_32 : decode c_m_code 32 = .ok (.ifCond .eq 5, 3) := by decide +kernel
theorem d_m_code_35 : decode c_m_code 35 = .ok (.iconst 0, 1) := by decide +kernel
theorem d_m_code_36 : decode c_m_code 36 = .ok (.ireturn, 1) := by decide +kernel
theorem d_m_code_37 : decode c_m_code 37 = .ok (.aload_n 0, 1) := by decide +kernel
theorem d_m_code_38 : decode c_m_code 38 = .ok (.bipush 15, 2) := by decide +kernel
theorem d_m_code_40 : decode c_m_code 40 = .ok (.invokevirtual 82, 3) := by decide +kernel
theorem d_m_code_43 : decode c_m_code 43 = .ok (.istore_n 2, 1) := by decide +kernel
theorem d_m_code_44 : decode c_m_code 44 = .ok (.iload_n 2, 1) := by decide +kernel
theorem d_m_code_45 : decode c_m_code 45 = .ok (.iconst (-1), 1) := by decide +kernel
theorem d_m_code_46 : decode c_m_code 46 = .ok (.if_icmp .eq 14, 3) := by decide +kernel
theorem d_m_code_49 : decode c_m_code 49 = .ok (.aload_n 0, 1) := by decide +kernel
theorem d_m_code_50 : decode c_m_code 50 = .ok (.iload_n 2, 1) := by decide +kernel
theorem d_m_code_51 : decode c_m_code 51 = .ok (.bipush 7, 2) := by decide +kernel
theorem d_m_code_53 : decode c_m_code 53 = .ok (.invokevirtual 48, 3) := by decide +kernel
theorem d_m_code_56 : decode c_m_code 56 = .ok (.iconst 3, 1) := by decide +kernel
theorem d_m_code_57 : decode c_m_code 57 = .ok (.if_icmp .ne 5, 3) := by decide +kernel
theorem d_m_code_60 : decode c_m_code 60 = .ok (.iconst 0, 1) := by decide +kernel
theorem d_m_code_61 : decode c_m_code 61 = .ok (.ireturn, 1) := by decide +kernel
theorem d_m_code_62 : decode c_m_code 62 = .ok (.aload_n 0, 1) := by decide +kernel
theorem d_m_code_63 : decode c_m_code 63 = .ok (.iload_n 2, 1) := by decide +kernel
theorem d_m_code_64 : decode c_m_code 64 = .ok (.bipush 9, 2) := by decide +kernel
theorem d_m_code_66 : decode c_m_code 66 = .ok (.aload_n 0, 1) := by decide +kernel
theorem d_m_code_67 : decode c_m_code 67 = .ok (.iload_n 2, 1) := by decide +kernel
theorem d_m_code_68 : decode c_m_code 68 = .ok (.bipush 7, 2) := by decide +kernel
theorem d_m_code_70 : decode c_m_code 70 = .ok (.invokevirtual 48, 3) := by decide +kernel
theorem d_m_code_73 : decode c_m_code 73 = .ok (.iadd, 1) := by decide +kernel
theorem d_m_code_74 : decode c_m_code 74 = .ok (.iload_n 1, 1) := by decide +kernel
theorem d_m_code_75 : decode c_m_code 75 = .ok (.invokevirtual 78, 3) := by decide +kernel
theorem d_m_code_78 : decode c_m_code 78 = .ok (.aload_n 0, 1) := by decide +kernel
theorem d_m_code_79 : decode c_m_code 79 = .ok (.iload_n 2, 1) := by decide +kernel
theorem d_m_code_80 : decode c_m_code 80 = .ok (.bipush 7, 2) := by decide +kernel
theorem d_m_code_82 : decode c_m_code 82 = .ok (.aload_n 0, 1) := by decide +kernel
theorem d_m_code_83 : decode c_m_code 83 = .ok (.iload_n 2, 1) := by decide +kernel
theorem d_m_code_84 : decode c_m_code 84 = .ok (.bipush 7, 2) := by decide +kernel
theorem d_m_code_86 : decode c_m_code 86 = .ok (.invokevirtual 48, 3) := by decide +kernel
theorem d_m_code_89 : decode c_m_code 89 = .ok (.iconst 1, 1) := by decide +kernel
theorem d_m_code_90 : decode c_m_code 90 = .ok (.iadd, 1) := by decide +kernel
theorem d_m_code_91 : decode c_m_code 91 = .ok (.invokevirtual 78, 3) := by decide +kernel
theorem d_m_code_94 : decode c_m_code 94 = .ok (.iconst 1, 1) := by decide +kernel
theorem d_m_code_95 : decode c_m_code 95 = .ok (.ireturn, 1) := by decide +kernel
theorem d_m_width_0 : decode c_m_width 0 = .ok (.aload_n 0, 1) := by decide +kernel
theorem d_m_width_1 : decode c_m_width 1 = .ok (.aload_n 0, 1) := by decide +kernel
theorem d_m_width_2 : decode c_m_width 2 = .ok (.getfield 55, 3) := by decide +kernel
theorem d_m_width_5 : decode c_m_width 5 = .ok (.iconst 1, 1) := by decide +kernel
theorem d_m_width_6 : decode c_m_width 6 = .ok (.invokevirtual 59, 3) := by decide +kernel
theorem d_m_width_9 : decode c_m_width 9 = .ok (.ifCond .ne 27, 3) := by decide +kernel
theorem d_m_width_12 : decode c_m_width 12 = .ok (.aload_n 0, 1) := by decide +kernel
theorem d_m_width_13 : decode c_m_width 13 = .ok (.iload_n 1, 1) := by decide +kernel
theorem d_m_width_14 : decode c_m_width 14 = .ok (.iconst 0, 1) := by decide +kernel
theorem d_m_width_15 : decode c_m_width 15 = .ok (.sipush 255, 3) := by decide +kernel
theorem d_m_width_18 : decode c_m_width 18 = .ok (.invokestatic 63, 3) := by decide +kernel
theorem d_m_width_21 : decode c_m_width 21 = .ok (.ifCond .ne 7, 3) := by decide +kernel
theorem d_m_width_24 : decode c_m_width 24 = .ok (.iconst 1, 1) := by decide +kernel
theorem d_m_width_25 : decode c_m_width 25 = .ok (.goto 4, 3) := by decide +kernel
theorem d_m_width_28 : decode c_m_width 28 = .ok (.iconst 0, 1) := by decide +kernel
theorem d_m_width_29 : decode c_m_width 29 = .ok (.iconst 2, 1) := by decide +kernel
theorem d_m_width_30 : decode c_m_width 30 = .ok (.invokevirtual 59, 3) := by decide +kernel
theorem d_m_width_33 : decode c_m_width 33 = .ok (.ifCond .eq 5, 3) := by decide +kernel
theorem d_m_width_36 : decode c_m_width 36 = .ok (.iconst 0, 1) := by decide +kernel
theorem d_m_width_37 : decode c_m_width 37 = .ok (.ireturn, 1) := by decide +kernel
theorem d_m_width_38 : decode c_m_width 38 = .ok (.aload_n 0, 1) := by decide +kernel
theorem d_m_width_39 : decode c_m_width 39 = .ok (.bipush 30, 2) := by decide +kernel
theorem d_m_width_41 : decode c_m_width 41 = .ok (.invokevirtual 82, 3) := by decide +kernel
theorem d_m_width_44 : decode c_m_width 44 = .ok (.istore_n 2, 1) := by decide +kernel
theorem d_m_width_45 : decode c_m_width 45 = .ok (.iload_n 2, 1) := by decide +kernel
theorem d_m_width_46 : decode c_m_width 46 = .ok (.iconst (-1), 1) := by decide +kernel
theorem d_m_width_47 : decode c_m_width 47 = .ok (.if_icmp .eq 15, 3) := by decide +kernel
theorem d_m_width_50 : decode c_m_width 50 = .ok (.aload_n 0, 1) := by decide +kernel
theorem d_m_width_51 : decode c_m_width 51 = .ok (.iload_n 2, 1) := by decide +kernel
theorem d_m_width_52 : decode c_m_width 52 = .ok (.bipush 8, 2) := by decide +kernel
theorem d_m_width_54 : decode c_m_width 54 = .ok (.invokevirtual 48, 3) := by decide +kernel
theorem d_m_width_57 : decode c_m_width 57 = .ok (.bipush 8, 2) := by decide +kernel
theorem d_m_width_59 : decode c_m_width 59 = .ok (.if_icmp .ne 5, 3) := by decide +kernel
theorem d_m_width_62 : decode c_m_width 62 = .ok (.iconst 0, 1) := by decide +kernel
theorem d_m_width_63 : decode c_m_width 63 = .ok (.ireturn, 1) := by decide +kernel
theorem d_m_width_64 : decode c_m_width 64 = .ok (.aload_n 0, 1) := by decide +kernel
theorem d_m_width_65 : decode c_m_width 65 = .ok (.iload_n 2, 1) := by decide +kernel
theorem d_m_width_66 : decode c_m_width 66 = .ok (.bipush 12, 2) := by decide +kernel
theorem d_m_width_68 : decode c_m_width 68 = .ok (.aload_n 0, 1) := by decide +kernel
theorem d_m_width_69 : decode c_m_width 69 = .ok (.iload_n 2, 1) := by decide +kernel
theorem d_m_width_70 : decode c_m_width 70 = .ok (.bipush 8, 2) := by decide +kernel
theorem d_m_width_72 : decode c_m_width 72 = .ok (.invokevirtual 48, 3) := by decide +kernel
theorem d_m_width_75 : decode c_m_width 75 = .ok (.iadd, 1) := by decide +kernel
theorem d_m_width_76 : decode c_m_width 76 = .ok (.iload_n 1, 1) := by decide +kernel
theorem d_m_width_77 : decode c_m_width 77 = .ok (.invokevirtual 78, 3) := by decide +kernel
theorem d_m_width_80 : decode c_m_width 80 = .ok (.aload_n 0, 1) := by decide +kernel
theorem d_m_width_81 : decode c_m_width 81 = .ok (.iload_n 2, 1) := by decide +kernel
theorem d_m_width_82 : decode c_m_width 82 = .ok (.bipush 8, 2) := by decide +kernel
theorem d_m_width_84 : decode c_m_width 84 = .ok (.aload_n 0, 1) := by decide +kernel
theorem d_m_width_85 : decode c_m_width 85 = .ok (.iload_n 2, 1) := by decide +kernel
theorem d_m_width_86 : decode c_m_width 86 = .ok (.bipush 8, 2) := by decide +kernel
theorem d_m_width_88 : decode c_m_width 88 = .ok (.invokevirtual 48, 3) := by decide +kernel
theorem d_m_width_91 : decode c_m_width 91 = .ok (.iconst 1, 1) := by decide +kernel
theorem d_m_width_92 : decode c_m_width 92 = .ok (.iadd, 1) := by decide +kernel
theorem d_m_width_93 : decode c_m_width 93 = .ok (.invokevirtual 78, 3) := by decide +kernel
theorem d_m_width_96 : decode c_m_width 96 = .ok (.iconst 1, 1) := by decide +kernel
theorem d_m_width_97 : decode c_m_width 97 = .ok (.ireturn, 1) := by decide +kernel
theorem d_m_weigh_0 : decode c_m_weigh 0 = .ok (.aload_n 0, 1) := by decide +kernel
theorem d_m_weigh_1 : decode c_m_weigh 1 = .ok (.aload_n 0, 1) := by decide +kernel
theorem d_m_weigh_2 : decode c_m_weigh 2 = .ok (.getfield 55, 3) := by decide +kernel
theorem d_m_weigh_5 : decode c_m_weigh 5 = .ok (.iconst 1, 1) := by decide +kernel
theorem d_m_weigh_6 : decode c_m_weigh 6 = .ok (.invokevirtual 59, 3) := by decide +kernel
theorem d_m_weigh_9 : decode c_m_weigh 9 = .ok (.ifCond .ne 27, 3) := by decide +kernel
theorem d_m_weigh_12 : decode c_m_weigh 12 = .ok (.aload_n 0, 1) := by decide +kernel
theorem d_m_weigh_13 : decode c_m_weigh 13 = .ok (.iload_n 1, 1) := by decide +kernel
theorem d_m_weigh_14 : decode c_m_weigh 14 = .ok (.iconst 0, 1) := by decide +kernel
theorem d_m_weigh_15 : decode c_m_weigh 15 = .ok (.sipush 5000, 3) := by decide +kernel
theorem d_m_weigh_18 : decode c_m_weigh 18 = .ok (.invokestatic 63, 3) := by decide +kernel
theorem d_m_weigh_21 : decode c_m_weigh 21 = .ok (.ifCond .ne 7, 3) := by decide +kernel
theorem d_m_weigh_24 : decode c_m_weigh 24 = .ok (.iconst 1, 1) := by decide +kernel
theorem d_m_weigh_25 : decode c_m_weigh 25 = .ok (.goto 4, 3) := by decide +kernel
theorem d_m_weigh_28 : decode c_m_weigh 28 = .ok (.iconst 0, 1) := by decide +kernel
theorem d_m_weigh_29 : decode c_m_weigh 29 = .ok (.iconst 2, 1) := by decide +kernel
theorem d_m_weigh_30 : decode c_m_weigh 30 = .ok (.invokevirtual 59, 3) := by decide +kernel
theorem d_m_weigh_33 : decode c_m_weigh 33 = .ok (.ifCond .eq 5, 3) := by decide +kernel
theorem d_m_weigh_36 : decode c_m_weigh 36 = .ok (.iconst 0, 1) := by decide +kernel
theorem d_m_weigh_37 : decode c_m_weigh 37 = .ok (.ireturn, 1) := by decide +kernel
theorem d_m_weigh_38 : decode c_m_weigh 38 = .ok (.aload_n 0, 1) := by decide +kernel
theorem d_m_weigh_39 : decode c_m_weigh 39 = .ok (.bipush 45, 2) := by decide +kernel
theorem d_m_weigh_41 : decode c_m_weigh 41 = .ok (.invokevirtual 82, 3) := by decide +kernel
theorem d_m_weigh_44 : decode c_m_weigh 44 = .ok (.istore_n 2, 1) := by decide +kernel
theorem d_m_weigh_45 : decode c_m_weigh 45 = .ok (.iload_n 2, 1) := by decide +kernel
theorem d_m_weigh_46 : decode c_m_weigh 46 = .ok (.iconst (-1), 1) := by decide +kernel
theorem d_m_weigh_47 : decode c_m_weigh 47 = .ok (.if_icmp .ne 5, 3) := by decide +kernel
theorem d_m_weigh_50 : decode c_m_weigh 50 = .ok (.iconst 0, 1) := by decide +kernel
theorem d_m_weigh_51 : decode c_m_weigh 51 = .ok (.ireturn, 1) := by decide +kernel
theorem d_m_weigh_52 : decode c_m_weigh 52 = .ok (.aload_n 0, 1) := by decide +kernel
theorem d_m_weigh_53 : decode c_m_weigh 53 = .ok (.iload_n 2, 1) := by decide +kernel
theorem d_m_weigh_54 : decode c_m_weigh 54 = .ok (.bipush 6, 2) := by decide +kernel
theorem d_m_weigh_56 : decode c_m_weigh 56 = .ok (.iload_n 1, 1) := by decide +kernel
theorem d_m_weigh_57 : decode c_m_weigh 57 = .ok (.invokevirtual 78, 3) := by decide +kernel
theorem d_m_weigh_60 : decode c_m_weigh 60 = .ok (.iconst 1, 1) := by decide +kernel
theorem d_m_weigh_61 : decode c_m_weigh 61 = .ok (.ireturn, 1) := by decide +kernel
theorem d_m_writes_0 : decode c_m_writes 0 = .ok (.aload_n 0, 1) := by decide +kernel
theorem d_m_writes_1 : decode c_m_writes 1 = .ok (.getfield 85, 3) := by decide +kernel
theorem d_m_writes_4 : decode c_m_writes 4 = .ok (.iconst 1, 1) := by decide +kernel
theorem d_m_writes_5 : decode c_m_writes 5 = .ok (.if_icmp .ne 15, 3) := by decide +kernel
theorem d_m_writes_8 : decode c_m_writes 8 = .ok (.aload_n 0, 1) := by decide +kernel
theorem d_m_writes_9 : decode c_m_writes 9 = .ok (.iconst 0, 1) := by decide +kernel
theorem d_m_writes_10 : decode c_m_writes 10 = .ok (.putfield 85, 3) := by decide +kernel
theorem d_m_writes_13 : decode c_m_writes 13 = .ok (.aload_n 0, 1) := by decide +kernel
theorem d_m_writes_14 : decode c_m_writes 14 = .ok (.iconst 1, 1) := by decide +kernel
theorem d_m_writes_15 : decode c_m_writes 15 = .ok (.putfield 55, 3) := by decide +kernel
theorem d_m_writes_18 : decode c_m_writes 18 = .ok (.iconst 0, 1) := by decide +kernel
theorem d_m_writes_19 : decode c_m_writes 19 = .ok (.ireturn, 1) := by decide +kernel
theorem d_m_writes_20 : decode c_m_writes 20 = .ok (.aload_n 0, 1) := by decide +kernel
theorem d_m_writes_21 : decode c_m_writes 21 = .ok (.dup, 1) := by decide +kernel
theorem d_m_writes_22 : decode c_m_writes 22 = .ok (.getfield 85, 3) := by decide +kernel
theorem d_m_writes_25 : decode c_m_writes 25 = .ok (.aload_n 0, 1) := by decide +kernel
theorem d_m_writes_26 : decode c_m_writes 26 = .ok (.getfield 85, 3) := by decide +kernel
theorem d_m_writes_29 : decode c_m_writes 29 = .ok (.ifCond .le 7, 3) := by decide +kernel
theorem d_m_writes_32 : decode c_m_writes 32 = .ok (.iconst 1, 1) := by decide +kernel
theorem d_m_writes_33 : decode c_m_writes 33 = .ok (.goto 4, 3) := by decide +kernel
theorem d_m_writes_36 : decode c_m_writes 36 = .ok (.iconst 0, 1) := by decide +kernel
theorem d_m_writes_37 : decode c_m_writes 37 = .ok (.isub, 1) := by decide +kernel
theorem d_m_writes_38 : decode c_m_writes 38 = .ok (.putfield 85, 3) := by decide +kernel
theorem d_m_writes_41 : decode c_m_writes 41 = .ok (.aload_n 0, 1) := by decide +kernel
theorem d_m_writes_42 : decode c_m_writes 42 = .ok (.dup, 1) := by decide +kernel
theorem d_m_writes_43 : decode c_m_writes 43 = .ok (.getfield 88, 3) := by decide +kernel
theorem d_m_writes_46 : decode c_m_writes 46 = .ok (.iconst 1, 1) := by decide +kernel
theorem d_m_writes_47 : decode c_m_writes 47 = .ok (.iadd, 1) := by decide +kernel
theorem d_m_writes_48 : decode c_m_writes 48 = .ok (.putfield 88, 3) := by decide +kernel
theorem d_m_writes_51 : decode c_m_writes 51 = .ok (.iconst 1, 1) := by decide +kernel
theorem d_m_writes_52 : decode c_m_writes 52 = .ok (.ireturn, 1) := by decide +kernel
theorem d_m_isBlocked_0 : decode c_m_isBlocked 0 = .ok (.iconst 0, 1) := by decide +kernel
theorem d_m_isBlocked_1 : decode c_m_isBlocked 1 = .ok (.istore_n 1, 1) := by decide +kernel
theorem d_m_isBlocked_2 : decode c_m_isBlocked 2 = .ok (.iload_n 1, 1) := by decide +kernel
theorem d_m_isBlocked_3 : decode c_m_isBlocked 3 = .ok (.aload_n 0, 1) := by decide +kernel
theorem d_m_isBlocked_4 : decode c_m_isBlocked 4 = .ok (.getfield 52, 3) := by decide +kernel
theorem d_m_isBlocked_7 : decode c_m_isBlocked 7 = .ok (.if_icmp .ge 33, 3) := by decide +kernel
theorem d_m_isBlocked_10 : decode c_m_isBlocked 10 = .ok (.aload_n 0, 1) := by decide +kernel
theorem d_m_isBlocked_11 : decode c_m_isBlocked 11 = .ok (.iload_n 1, 1) := by decide +kernel
theorem d_m_isBlocked_12 : decode c_m_isBlocked 12 = .ok (.iconst 2, 1) := by decide +kernel
theorem d_m_isBlocked_13 : decode c_m_isBlocked 13 = .ok (.invokevirtual 48, 3) := by decide +kernel
theorem d_m_isBlocked_16 : decode c_m_isBlocked 16 = .ok (.bipush 104, 2) := by decide +kernel
theorem d_m_isBlocked_18 : decode c_m_isBlocked 18 = .ok (.if_icmp .ne 16, 3) := by decide +kernel
theorem d_m_isBlocked_21 : decode c_m_isBlocked 21 = .ok (.aload_n 0, 1) := by decide +kernel
theorem d_m_isBlocked_22 : decode c_m_isBlocked 22 = .ok (.iload_n 1, 1) := by decide +kernel
theorem d_m_isBlocked_23 : decode c_m_isBlocked 23 = .ok (.iconst 3, 1) := by decide +kernel
theorem d_m_isBlocked_24 : decode c_m_isBlocked 24 = .ok (.invokevirtual 48, 3) := by decide +kernel
theorem d_m_isBlocked_27 : decode c_m_isBlocked 27 = .ok (.bipush 10, 2) := by decide +kernel
theorem d_m_isBlocked_29 : decode c_m_isBlocked 29 = .ok (.if_icmp .eq 5, 3) := by decide +kernel
theorem d_m_isBlocked_32 : decode c_m_isBlocked 32 = .ok (.iconst 1, 1) := by decide +kernel
theorem d_m_isBlocked_33 : decode c_m_isBlocked 33 = .ok (.ireturn, 1) := by decide +kernel
theorem d_m_isBlocked_34 : decode c_m_isBlocked 34 = .ok (.iinc 1 1, 3) := by decide +kernel
theorem d_m_isBlocked_37 : decode c_m_isBlocked 37 = .ok (.goto (-35), 3) := by decide +kernel
theorem d_m_isBlocked_40 : decode c_m_isBlocked 40 = .ok (.iconst 0, 1) := by decide +kernel
theorem d_m_isBlocked_41 : decode c_m_isBlocked 41 = .ok (.ireturn, 1) := by decide +kernel
theorem d_m_isSuspicious_0 : decode c_m_isSuspicious 0 = .ok (.aload_n 0, 1) := by decide +kernel
theorem d_m_isSuspicious_1 : decode c_m_isSuspicious 1 = .ok (.getfield 91, 3) := by decide +kernel
theorem d_m_isSuspicious_4 : decode c_m_isSuspicious 4 = .ok (.bipush 50, 2) := by decide +kernel
theorem d_m_isSuspicious_6 : decode c_m_isSuspicious 6 = .ok (.if_icmp .le 7, 3) := by decide +kernel
theorem d_m_isSuspicious_9 : decode c_m_isSuspicious 9 = .ok (.iconst 1, 1) := by decide +kernel
theorem d_m_isSuspicious_10 : decode c_m_isSuspicious 10 = .ok (.goto 4, 3) := by decide +kernel
theorem d_m_isSuspicious_13 : decode c_m_isSuspicious 13 = .ok (.iconst 0, 1) := by decide +kernel
theorem d_m_isSuspicious_14 : decode c_m_isSuspicious 14 = .ok (.ireturn, 1) := by decide +kernel
theorem d_m_against_0 : decode c_m_against 0 = .ok (.aload_n 0, 1) := by decide +kernel
theorem d_m_against_1 : decode c_m_against 1 = .ok (.iload_n 1, 1) := by decide +kernel
theorem d_m_against_2 : decode c_m_against 2 = .ok (.bipush 7, 2) := by decide +kernel
theorem d_m_against_4 : decode c_m_against 4 = .ok (.invokevirtual 48, 3) := by decide +kernel
theorem d_m_against_7 : decode c_m_against 7 = .ok (.ifCond .ne 5, 3) := by decide +kernel
theorem d_m_against_10 : decode c_m_against 10 = .ok (.iconst 1, 1) := by decide +kernel
theorem d_m_against_11 : decode c_m_against 11 = .ok (.ireturn, 1) := by decide +kernel
theorem d_m_against_12 : decode c_m_against 12 = .ok (.iconst 1, 1) := by decide +kernel
theorem d_m_against_13 : decode c_m_against 13 = .ok (.istore_n 2, 1) := by decide +kernel
theorem d_m_against_14 : decode c_m_against 14 = .ok (.iload_n 2, 1) := by decide +kernel
theorem d_m_against_15 : decode c_m_against 15 = .ok (.aload_n 0, 1) := by decide +kernel
theorem d_m_against_16 : decode c_m_against 16 = .ok (.iload_n 1, 1) := by decide +kernel
theorem d_m_against_17 : decode c_m_against 17 = .ok (.bipush 7, 2) := by decide +kernel
theorem d_m_against_19 : decode c_m_against 19 = .ok (.invokevirtual 48, 3) := by decide +kernel
theorem d_m_against_22 : decode c_m_against 22 = .ok (.if_icmp .ge 30, 3) := by decide +kernel
theorem d_m_against_25 : decode c_m_against 25 = .ok (.aload_n 0, 1) := by decide +kernel
theorem d_m_against_26 : decode c_m_against 26 = .ok (.iload_n 1, 1) := by decide +kernel
theorem d_m_against_27 : decode c_m_against 27 = .ok (.bipush 9, 2) := by decide +kernel
theorem d_m_against_29 : decode c_m_against 29 = .ok (.iload_n 2, 1) := by decide +kernel
theorem d_m_against_30 : decode c_m_against 30 = .ok (.iadd, 1) := by decide +kernel
theorem d_m_against_31 : decode c_m_against 31 = .ok (.invokevirtual 48, 3) := by decide +kernel
theorem d_m_against_34 : decode c_m_against 34 = .ok (.aload_n 0, 1) := by decide +kernel
theorem d_m_against_35 : decode c_m_against 35 = .ok (.iload_n 1, 1) := by decide +kernel
theorem d_m_against_36 : decode c_m_against 36 = .ok (.bipush 9, 2) := by decide +kernel
theorem d_m_against_38 : decode c_m_against 38 = .ok (.invokevirtual 48, 3) := by decide +kernel
theorem d_m_against_41 : decode c_m_against 41 = .ok (.if_icmp .eq 5, 3) := by decide +kernel
theorem d_m_against_44 : decode c_m_against 44 = .ok (.iconst 2, 1) := by decide +kernel
theorem d_m_against_45 : decode c_m_against 45 = .ok (.ireturn, 1) := by decide +kernel
theorem d_m_against_46 : decode c_m_against 46 = .ok (.iinc 2 1, 3) := by decide +kernel
theorem d_m_against_49 : decode c_m_against 49 = .ok (.goto (-35), 3) := by decide +kernel
theorem d_m_against_52 : decode c_m_against 52 = .ok (.aload_n 0, 1) := by decide +kernel
theorem d_m_against_53 : decode c_m_against 53 = .ok (.aload_n 0, 1) := by decide +kernel
theorem d_m_against_54 : decode c_m_against 54 = .ok (.iload_n 1, 1) := by decide +kernel
theorem d_m_against_55 : decode c_m_against 55 = .ok (.bipush 9, 2) := by decide +kernel
theorem d_m_against_57 : decode c_m_against 57 = .ok (.invokevirtual 48, 3) := by decide +kernel
theorem d_m_against_60 : decode c_m_against 60 = .ok (.invokevirtual 68, 3) := by decide +kernel
theorem d_m_against_63 : decode c_m_against 63 = .ok (.istore_n 2, 1) := by decide +kernel
theorem d_m_against_64 : decode c_m_against 64 = .ok (.iload_n 2, 1) := by decide +kernel
theorem d_m_against_65 : decode c_m_against 65 = .ok (.iconst (-1), 1) := by decide +kernel
theorem d_m_against_66 : decode c_m_against 66 = .ok (.if_icmp .ne 5, 3) := by decide +kernel
theorem d_m_against_69 : decode c_m_against 69 = .ok (.iconst 3, 1) := by decide +kernel
theorem d_m_against_70 : decode c_m_against 70 = .ok (.ireturn, 1) := by decide +kernel
theorem d_m_against_71 : decode c_m_against 71 = .ok (.aload_n 0, 1) := by decide +kernel
theorem d_m_against_72 : decode c_m_against 72 = .ok (.iload_n 1, 1) := by decide +kernel
theorem d_m_against_73 : decode c_m_against 73 = .ok (.bipush 6, 2) := by decide +kernel
theorem d_m_against_75 : decode c_m_against 75 = .ok (.invokevirtual 48, 3) := by decide +kernel
theorem d_m_against_78 : decode c_m_against 78 = .ok (.iconst (-1), 1) := by decide +kernel
theorem d_m_against_79 : decode c_m_against 79 = .ok (.if_icmp .eq 38, 3) := by decide +kernel
theorem d_m_against_82 : decode c_m_against 82 = .ok (.aload_n 0, 1) := by decide +kernel
theorem d_m_against_83 : decode c_m_against 83 = .ok (.iload_n 1, 1) := by decide +kernel
theorem d_m_against_84 : decode c_m_against 84 = .ok (.bipush 6, 2) := by decide +kernel
theorem d_m_against_86 : decode c_m_against 86 = .ok (.invokevirtual 48, 3) := by decide +kernel
theorem d_m_against_89 : decode c_m_against 89 = .ok (.aload_n 0, 1) := by decide +kernel
theorem d_m_against_90 : decode c_m_against 90 = .ok (.getfield 16, 3) := by decide +kernel
theorem d_m_against_93 : decode c_m_against 93 = .ok (.bipush 6, 2) := by decide +kernel
theorem d_m_against_95 : decode c_m_against 95 = .ok (.iload_n 2, 1) := by decide +kernel
theorem d_m_against_96 : decode c_m_against 96 = .ok (.imul, 1) := by decide +kernel
theorem d_m_against_97 : decode c_m_against 97 = .ok (.iconst 3, 1) := by decide +kernel
theorem d_m_against_98 : decode c_m_against 98 = .ok (.iadd, 1) := by decide +kernel
theorem d_m_against_99 : decode c_m_against 99 = .ok (.iaload, 1) := by decide +kernel
theorem d_m_against_100 : decode c_m_against 100 = .ok (.aload_n 0, 1) := by decide +kernel
theorem d_m_against_101 : decode c_m_against 101 = .ok (.getfield 16, 3) := by decide +kernel
theorem d_m_against_104 : decode c_m_against 104 = .ok (.bipush 6, 2) := by decide +kernel
theorem d_m_against_106 : decode c_m_against 106 = .ok (.iload_n 2, 1) := by decide +kernel
theorem d_m_against_107 : decode c_m_against 107 = .ok (.imul, 1) := by decide +kernel
theorem d_m_against_108 : decode c_m_against 108 = .ok (.iconst 4, 1) := by decide +kernel
theorem d_m_against_109 : decode c_m_against 109 = .ok (.iadd, 1) := by decide +kernel
theorem d_m_against_110 : decode c_m_against 110 = .ok (.iaload, 1) := by decide +kernel
theorem d_m_against_111 : decode c_m_against 111 = .ok (.invokestatic 63, 3) := by decide +kernel
theorem d_m_against_114 : decode c_m_against 114 = .ok (.ifCond .ne 5, 3) := by decide +kernel
theorem d_m_against_117 : decode c_m_against 117 = .ok (.iconst 4, 1) := by decide +kernel
theorem d_m_against_118 : decode c_m_against 118 = .ok (.ireturn, 1) := by decide +kernel
theorem d_m_against_119 : decode c_m_against 119 = .ok (.aload_n 0, 1) := by decide +kernel
theorem d_m_against_120 : decode c_m_against 120 = .ok (.getfield 16, 3) := by decide +kernel
theorem d_m_against_123 : decode c_m_against 123 = .ok (.bipush 6, 2) := by decide +kernel
theorem d_m_against_125 : decode c_m_against 125 = .ok (.iload_n 2, 1) := by decide +kernel
theorem d_m_against_126 : decode c_m_against 126 = .ok (.imul, 1) := by decide +kernel
theorem d_m_against_127 : decode c_m_against 127 = .ok (.iconst 5, 1) := by decide +kernel
theorem d_m_against_128 : decode c_m_against 128 = .ok (.iadd, 1) := by decide +kernel
theorem d_m_against_129 : decode c_m_against 129 = .ok (.iaload, 1) := by decide +kernel
theorem d_m_against_130 : decode c_m_against 130 = .ok (.istore_n 3, 1) := by decide +kernel
theorem d_m_against_131 : decode c_m_against 131 = .ok (.iconst 0, 1) := by decide +kernel
theorem d_m_against_132 : decode c_m_against 132 = .ok (.istore 4, 2) := by decide +kernel
theorem d_m_against_134 : decode c_m_against 134 = .ok (.iconst 0, 1) := by decide +kernel
theorem d_m_against_135 : decode c_m_against 135 = .ok (.istore 5, 2) := by decide +kernel
theorem d_m_against_137 : decode c_m_against 137 = .ok (.iload 5, 2) := by decide +kernel
theorem d_m_against_139 : decode c_m_against 139 = .ok (.aload_n 0, 1) := by decide +kernel
theorem d_m_against_140 : decode c_m_against 140 = .ok (.iload_n 1, 1) := by decide +kernel
theorem d_m_against_141 : decode c_m_against 141 = .ok (.bipush 8, 2) := by decide +kernel
theorem d_m_against_143 : decode c_m_against 143 = .ok (.invokevirtual 48, 3) := by decide +kernel
theorem d_m_against_146 : decode c_m_against 146 = .ok (.if_icmp .ge 52, 3) := by decide +kernel
theorem d_m_against_149 : decode c_m_against 149 = .ok (.aload_n 0, 1) := by decide +kernel
theorem d_m_against_150 : decode c_m_against 150 = .ok (.iload_n 1, 1) := by decide +kernel
theorem d_m_against_151 : decode c_m_against 151 = .ok (.bipush 12, 2) := by decide +kernel
theorem d_m_against_153 : decode c_m_against 153 = .ok (.iload 5, 2) := by decide +kernel
theorem d_m_against_155 : decode c_m_against 155 = .ok (.iadd, 1) := by decide +kernel
theorem d_m_against_156 : decode c_m_against 156 = .ok (.invokevirtual 48, 3) := by decide +kernel
theorem d_m_against_159 : decode c_m_against 159 = .ok (.aload_n 0, 1) := by decide +kernel
theorem d_m_against_160 : decode c_m_against 160 = .ok (.getfield 7, 3) := by decide +kernel
theorem d_m_against_163 : decode c_m_against 163 = .ok (.bipush 8, 2) := by decide +kernel
theorem d_m_against_165 : decode c_m_against 165 = .ok (.iload_n 3, 1) := by decide +kernel
theorem d_m_against_166 : decode c_m_against 166 = .ok (.imul, 1) := by decide +kernel
theorem d_m_against_167 : decode c_m_against 167 = .ok (.iload 5, 2) := by decide +kernel
theorem d_m_against_169 : decode c_m_against 169 = .ok (.iadd, 1) := by decide +kernel
theorem d_m_against_170 : decode c_m_against 170 = .ok (.iaload, 1) := by decide +kernel
theorem d_m_against_171 : decode c_m_against 171 = .ok (.isub, 1) := by decide +kernel
theorem d_m_against_172 : decode c_m_against 172 = .ok (.istore 6, 2) := by decide +kernel
theorem d_m_against_174 : decode c_m_against 174 = .ok (.iload 4, 2) := by decide +kernel
theorem d_m_against_176 : decode c_m_against 176 = .ok (.iload 6, 2) := by decide +kernel
theorem d_m_against_178 : decode c_m_against 178 = .ok (.ifCond .ge 9, 3) := by decide +kernel
theorem d_m_against_181 : decode c_m_against 181 = .ok (.iload 6, 2) := by decide +kernel
theorem d_m_against_183 : decode c_m_against 183 = .ok (.ineg, 1) := by decide +kernel
theorem d_m_against_184 : decode c_m_against 184 = .ok (.goto 5, 3) := by decide +kernel
theorem d_m_against_187 : decode c_m_against 187 = .ok (.iload 6, 2) := by decide +kernel
theorem d_m_against_189 : decode c_m_against 189 = .ok (.iadd, 1) := by decide +kernel
theorem d_m_against_190 : decode c_m_against 190 = .ok (.istore 4, 2) := by decide +kernel
theorem d_m_against_192 : decode c_m_against 192 = .ok (.iinc 5 1, 3) := by decide +kernel
theorem d_m_against_195 : decode c_m_against 195 = .ok (.goto (-58), 3) := by decide +kernel
theorem d_m_against_198 : decode c_m_against 198 = .ok (.aload_n 0, 1) := by decide +kernel
theorem d_m_against_199 : decode c_m_against 199 = .ok (.iload_n 1, 1) := by decide +kernel
theorem d_m_against_200 : decode c_m_against 200 = .ok (.bipush 8, 2) := by decide +kernel
theorem d_m_against_202 : decode c_m_against 202 = .ok (.invokevirtual 48, 3) := by decide +kernel
theorem d_m_against_205 : decode c_m_against 205 = .ok (.bipush 8, 2) := by decide +kernel
theorem d_m_against_207 : decode c_m_against 207 = .ok (.if_icmp .lt 14, 3) := by decide +kernel
theorem d_m_against_210 : decode c_m_against 210 = .ok (.iload 4, 2) := by decide +kernel
theorem d_m_against_212 : decode c_m_against 212 = .ok (.aload_n 0, 1) := by decide +kernel
theorem d_m_against_213 : decode c_m_against 213 = .ok (.getfield 13, 3) := by decide +kernel
theorem d_m_against_216 : decode c_m_against 216 = .ok (.iload_n 3, 1) := by decide +kernel
theorem d_m_against_217 : decode c_m_against 217 = .ok (.iaload, 1) := by decide +kernel
theorem d_m_against_218 : decode c_m_against 218 = .ok (.if_icmp .le 5, 3) := by decide +kernel
theorem d_m_against_221 : decode c_m_against 221 = .ok (.iconst 5, 1) := by decide +kernel
theorem d_m_against_222 : decode c_m_against 222 = .ok (.ireturn, 1) := by decide +kernel
theorem d_m_against_223 : decode c_m_against 223 = .ok (.aload_n 0, 1) := by decide +kernel
theorem d_m_against_224 : decode c_m_against 224 = .ok (.getfield 16, 3) := by decide +kernel
theorem d_m_against_227 : decode c_m_against 227 = .ok (.bipush 6, 2) := by decide +kernel
theorem d_m_against_229 : decode c_m_against 229 = .ok (.iload_n 2, 1) := by decide +kernel
theorem d_m_against_230 : decode c_m_against 230 = .ok (.imul, 1) := by decide +kernel
theorem d_m_against_231 : decode c_m_against 231 = .ok (.iconst 2, 1) := by decide +kernel
theorem d_m_against_232 : decode c_m_against 232 = .ok (.iadd, 1) := by decide +kernel
theorem d_m_against_233 : decode c_m_against 233 = .ok (.iaload, 1) := by decide +kernel
theorem d_m_against_234 : decode c_m_against 234 = .ok (.istore 5, 2) := by decide +kernel
theorem d_m_against_236 : decode c_m_against 236 = .ok (.aload_n 0, 1) := by decide +kernel
theorem d_m_against_237 : decode c_m_against 237 = .ok (.getfield 22, 3) := by decide +kernel
theorem d_m_against_240 : decode c_m_against 240 = .ok (.iload 5, 2) := by decide +kernel
theorem d_m_against_242 : decode c_m_against 242 = .ok (.iaload, 1) := by decide +kernel
theorem d_m_against_243 : decode c_m_against 243 = .ok (.istore 6, 2) := by decide +kernel
theorem d_m_against_245 : decode c_m_against 245 = .ok (.iconst 0, 1) := by decide +kernel
theorem d_m_against_246 : decode c_m_against 246 = .ok (.istore 7, 2) := by decide +kernel
theorem d_m_against_248 : decode c_m_against 248 = .ok (.iload 7, 2) := by decide +kernel
theorem d_m_against_250 : decode c_m_against 250 = .ok (.aload_n 0, 1) := by decide +kernel
theorem d_m_against_251 : decode c_m_against 251 = .ok (.getfield 52, 3) := by decide +kernel
theorem d_m_against_254 : decode c_m_against 254 = .ok (.if_icmp .ge 53, 3) := by decide +kernel
theorem d_m_against_257 : decode c_m_against 257 = .ok (.iload 6, 2) := by decide +kernel
theorem d_m_against_259 : decode c_m_against 259 = .ok (.aload_n 0, 1) := by decide +kernel
theorem d_m_against_260 : decode c_m_against 260 = .ok (.iload 7, 2) := by decide +kernel
theorem d_m_against_262 : decode c_m_against 262 = .ok (.iconst 3, 1) := by decide +kernel
theorem d_m_against_263 : decode c_m_against 263 = .ok (.invokevirtual 48, 3) := by decide +kernel
theorem d_m_against_266 : decode c_m_against 266 = .ok (.bipush 10, 2) := by decide +kernel
theorem d_m_against_268 : decode c_m_against 268 = .ok (.if_icmp .ne 29, 3) := by decide +kernel
theorem d_m_against_271 : decode c_m_against 271 = .ok (.aload_n 0, 1) := by decide +kernel
theorem d_m_against_272 : decode c_m_against 272 = .ok (.getfield 16, 3) := by decide +kernel
theorem d_m_against_275 : decode c_m_against 275 = .ok (.bipush 6, 2) := by decide +kernel
theorem d_m_against_277 : decode c_m_against 277 = .ok (.aload_n 0, 1) := by decide +kernel
theorem d_m_against_278 : decode c_m_against 278 = .ok (.iload 7, 2) := by decide +kernel
theorem d_m_against_280 : decode c_m_against 280 = .ok (.iconst 4, 1) := by decide +kernel
theorem d_m_against_281 : decode c_m_against 281 = .ok (.invokevirtual 48, 3) := by decide +kernel
theorem d_m_against_284 : decode c_m_against 284 = .ok (.imul, 1) := by decide +kernel
theorem d_m_against_285 : decode c_m_against 285 = .ok (.iconst 2, 1) := by decide +kernel
theorem d_m_against_286 : decode c_m_against 286 = .ok (.iadd, 1) := by decide +kernel
theorem d_m_against_287 : decode c_m_against 287 = .ok (.iaload, 1) := by decide +kernel
theorem d_m_against_288 : decode c_m_against 288 = .ok (.iload 5, 2) := by decide +kernel
theorem d_m_against_290 : decode c_m_against 290 = .ok (.if_icmp .ne 7, 3) := by decide +kernel
theorem d_m_against_293 : decode c_m_against 293 = .ok (.iconst 1, 1) := by decide +kernel
theorem d_m_against_294 : decode c_m_against 294 = .ok (.goto 4, 3) := by decide +kernel
theorem d_m_against_297 : decode c_m_against 297 = .ok (.iconst 0, 1) := by decide +kernel
theorem d_m_against_298 : decode c_m_against 298 = .ok (.iadd, 1) := by decide +kernel
theorem d_m_against_299 : decode c_m_against 299 = .ok (.istore 6, 2) := by decide +kernel
theorem d_m_against_301 : decode c_m_against 301 = .ok (.iinc 7 1, 3) := by decide +kernel
theorem d_m_against_304 : decode c_m_against 304 = .ok (.goto (-56), 3) := by decide +kernel
theorem d_m_against_307 : decode c_m_against 307 = .ok (.iload 6, 2) := by decide +kernel
theorem d_m_against_309 : decode c_m_against 309 = .ok (.aload_n 0, 1) := by decide +kernel
theorem d_m_against_310 : decode c_m_against 310 = .ok (.getfield 25, 3) := by decide +kernel
theorem d_m_against_313 : decode c_m_against 313 = .ok (.iload 5, 2) := by decide +kernel
theorem d_m_against_315 : decode c_m_against 315 = .ok (.iaload, 1) := by decide +kernel
theorem d_m_against_316 : decode c_m_against 316 = .ok (.if_icmp .lt 6, 3) := by decide +kernel
theorem d_m_against_319 : decode c_m_against 319 = .ok (.bipush 6, 2) := by decide +kernel
theorem d_m_against_321 : decode c_m_against 321 = .ok (.ireturn, 1) := by decide +kernel
theorem d_m_against_322 : decode c_m_against 322 = .ok (.aload_n 0, 1) := by decide +kernel
theorem d_m_against_323 : decode c_m_against 323 = .ok (.getfield 94, 3) := by decide +kernel
theorem d_m_against_326 : decode c_m_against 326 = .ok (.bipush 60, 2) := by decide +kernel
theorem d_m_against_328 : decode c_m_against 328 = .ok (.if_icmp .ne 6, 3) := by decide +kernel
theorem d_m_against_331 : decode c_m_against 331 = .ok (.bipush 7, 2) := by decide +kernel
theorem d_m_against_333 : decode c_m_against 333 = .ok (.ireturn, 1) := by decide +kernel
theorem d_m_against_334 : decode c_m_against 334 = .ok (.aload_n 0, 1) := by decide +kernel
theorem d_m_against_335 : decode c_m_against 335 = .ok (.invokevirtual 97, 3) := by decide +kernel
theorem d_m_against_338 : decode c_m_against 338 = .ok (.ifCond .eq 6, 3) := by decide +kernel
theorem d_m_against_341 : decode c_m_against 341 = .ok (.bipush 8, 2) := by decide +kernel
theorem d_m_against_343 : decode c_m_against 343 = .ok (.ireturn, 1) := by decide +kernel
theorem d_m_against_344 : decode c_m_against 344 = .ok (.aload_n 0, 1) := by decide +kernel
theorem d_m_against_345 : decode c_m_against 345 = .ok (.getfield 101, 3) := by decide +kernel
theorem d_m_against_348 : decode c_m_against 348 = .ok (.iconst 3, 1) := by decide +kernel
theorem d_m_against_349 : decode c_m_against 349 = .ok (.if_icmp .lt 7, 3) := by decide +kernel
theorem d_m_against_352 : decode c_m_against 352 = .ok (.iconst 1, 1) := by decide +kernel
theorem d_m_against_353 : decode c_m_against 353 = .ok (.goto 4, 3) := by decide +kernel
theorem d_m_against_356 : decode c_m_against 356 = .ok (.iconst 0, 1) := by decide +kernel
theorem d_m_against_357 : decode c_m_against 357 = .ok (.istore 7, 2) := by decide +kernel
theorem d_m_against_359 : decode c_m_against 359 = .ok (.iconst 0, 1) := by decide +kernel
theorem d_m_against_360 : decode c_m_against 360 = .ok (.istore 8, 2) := by decide +kernel
theorem d_m_against_362 : decode c_m_against 362 = .ok (.iload 8, 2) := by decide +kernel
theorem d_m_against_364 : decode c_m_against 364 = .ok (.bipush 24, 2) := by decide +kernel
theorem d_m_against_366 : decode c_m_against 366 = .ok (.if_icmp .ge 44, 3) := by decide +kernel
theorem d_m_against_369 : decode c_m_against 369 = .ok (.iload 7, 2) := by decide +kernel
theorem d_m_against_371 : decode c_m_against 371 = .ok (.ifCond .eq 39, 3) := by decide +kernel
theorem d_m_against_374 : decode c_m_against 374 = .ok (.aload_n 0, 1) := by decide +kernel
theorem d_m_against_375 : decode c_m_against 375 = .ok (.getfield 38, 3) := by decide +kernel
theorem d_m_against_378 : decode c_m_against 378 = .ok (.iload 8, 2) := by decide +kernel
theorem d_m_against_380 : decode c_m_against 380 = .ok (.iaload, 1) := by decide +kernel
theorem d_m_against_381 : decode c_m_against 381 = .ok (.aload_n 0, 1) := by decide +kernel
theorem d_m_against_382 : decode c_m_against 382 = .ok (.iload_n 1, 1) := by decide +kernel
theorem d_m_against_383 : decode c_m_against 383 = .ok (.bipush 12, 2) := by decide +kernel
theorem d_m_against_385 : decode c_m_against 385 = .ok (.iload 8, 2) := by decide +kernel
theorem d_m_against_387 : decode c_m_against 387 = .ok (.bipush 8, 2) := by decide +kernel
theorem d_m_against_389 : decode c_m_against 389 = .ok (.irem, 1) := by decide +kernel
theorem d_m_against_390 : decode c_m_against 390 = .ok (.iadd, 1) := by decide +kernel
theorem d_m_against_391 : decode c_m_against 391 = .ok (.invokevirtual 48, 3) := by decide +kernel
theorem d_m_against_394 : decode c_m_against 394 = .ok (.if_icmp .ne 7, 3) := by decide +kernel
theorem d_m_against_397 : decode c_m_against 397 = .ok (.iconst 1, 1) := by decide +kernel
theorem d_m_against_398 : decode c_m_against 398 = .ok (.goto 4, 3) := by decide +kernel
theorem d_m_against_401 : decode c_m_against 401 = .ok (.iconst 0, 1) := by decide +kernel
theorem d_m_against_402 : decode c_m_against 402 = .ok (.istore 7, 2) := by decide +kernel
theorem d_m_against_404 : decode c_m_against 404 = .ok (.iinc 8 1, 3) := by decide +kernel
theorem d_m_against_407 : decode c_m_against 407 = .ok (.goto (-45), 3) := by decide +kernel
theorem d_m_against_410 : decode c_m_against 410 = .ok (.iload 7, 2) := by decide +kernel
theorem d_m_against_412 : decode c_m_against 412 = .ok (.ifCond .eq 8, 3) := by decide +kernel
theorem d_m_against_415 : decode c_m_against 415 = .ok (.bipush 9, 2) := by decide +kernel
theorem d_m_against_417 : decode c_m_against 417 = .ok (.goto 4, 3) := by decide +kernel
theorem d_m_against_420 : decode c_m_against 420 = .ok (.iconst 0, 1) := by decide +kernel
theorem d_m_against_421 : decode c_m_against 421 = .ok (.ireturn, 1) := by decide +kernel
end
section
/-! decode rows -/
theorem d_m_judge_0 : decode c_m_judge 0 = .ok (.aload_n 0, 1) := by decide +kernel
theorem d_m_judge_1 : decode c_m_judge 1 = .ok (.iload_n 1, 1) := by decide +kernel
theorem d_m_judge_2 : decode c_m_judge 2 = .ok (.invokevirtual 104, 3) := by decide +kernel
theorem d_m_judge_5 : decode c_m_judge 5 = .ok (.istore_n 2, 1) := by decide +kernel
theorem d_m_judge_6 : decode c_m_judge 6 = .ok (.iload_n 2, 1) := by decide +kernel
theorem d_m_judge_7 : decode c_m_judge 7 = .ok (.ifCond .le 21, 3) := by decide +kernel
theorem d_m_judge_10 : decode c_m_judge 10 = .ok (.aload_n 0, 1) := by decide +kernel
theorem d_m_judge_11 : decode c_m_judge 11 = .ok (.iload_n 1, 1) := by decide +kernel
theorem d_m_judge_12 : decode c_m_judge 12 = .ok (.iconst 3, 1) := by decide +kernel
theorem d_m_judge_13 : decode c_m_judge 13 = .ok (.iload_n 2, 1) := by decide +kernel
theorem d_m_judge_14 : decode c_m_judge 14 = .ok (.invokevirtual 78, 3) := by decide +kernel
theorem d_m_judge_17 : decode c_m_judge 17 = .ok (.aload_n 0, 1) := by decide +kernel
theorem d_m_judge_18 : decode c_m_judge 18 = .ok (.getfield 41, 3) := by decide +kernel
theorem d_m_judge_21 : decode c_m_judge 21 = .ok (.iload_n 2, 1) := by decide +kernel
theorem d_m_judge_22 : decode c_m_judge 22 = .ok (.dup2, 1) := by decide +kernel
theorem d_m_judge_23 : decode c_m_judge 23 = .ok (.iaload, 1) := by decide +kernel
theorem d_m_judge_24 : decode c_m_judge 24 = .ok (.iconst 1, 1) := by decide +kernel
theorem d_m_judge_25 : decode c_m_judge 25 = .ok (.iadd, 1) := by decide +kernel
theorem d_m_judge_26 : decode c_m_judge 26 = .ok (.iastore, 1) := by decide +kernel
theorem d_m_judge_27 : decode c_m_judge 27 = .ok (.return_, 1) := by decide +kernel
theorem d_m_judge_28 : decode c_m_judge 28 = .ok (.aload_n 0, 1) := by decide +kernel
theorem d_m_judge_29 : decode c_m_judge 29 = .ok (.invokevirtual 107, 3) := by decide +kernel
theorem d_m_judge_32 : decode c_m_judge 32 = .ok (.ifCond .ne 4, 3) := by decide +kernel
theorem d_m_judge_35 : decode c_m_judge 35 = .ok (.return_, 1) := by decide +kernel
theorem d_m_judge_36 : decode c_m_judge 36 = .ok (.aload_n 0, 1) := by decide +kernel
theorem d_m_judge_37 : decode c_m_judge 37 = .ok (.iload_n 1, 1) := by decide +kernel
theorem d_m_judge_38 : decode c_m_judge 38 = .ok (.iconst 3, 1) := by decide +kernel
theorem d_m_judge_39 : decode c_m_judge 39 = .ok (.bipush 10, 2) := by decide +kernel
theorem d_m_judge_41 : decode c_m_judge 41 = .ok (.invokevirtual 78, 3) := by decide +kernel
theorem d_m_judge_44 : decode c_m_judge 44 = .ok (.aload_n 0, 1) := by decide +kernel
theorem d_m_judge_45 : decode c_m_judge 45 = .ok (.iload_n 1, 1) := by decide +kernel
theorem d_m_judge_46 : decode c_m_judge 46 = .ok (.iconst 4, 1) := by decide +kernel
theorem d_m_judge_47 : decode c_m_judge 47 = .ok (.aload_n 0, 1) := by decide +kernel
theorem d_m_judge_48 : decode c_m_judge 48 = .ok (.aload_n 0, 1) := by decide +kernel
theorem d_m_judge_49 : decode c_m_judge 49 = .ok (.iload_n 1, 1) := by decide +kernel
theorem d_m_judge_50 : decode c_m_judge 50 = .ok (.bipush 9, 2) := by decide +kernel
theorem d_m_judge_52 : decode c_m_judge 52 = .ok (.invokevirtual 48, 3) := by decide +kernel
theorem d_m_judge_55 : decode c_m_judge 55 = .ok (.invokevirtual 68, 3) := by decide +kernel
theorem d_m_judge_58 : decode c_m_judge 58 = .ok (.invokevirtual 78, 3) := by decide +kernel
theorem d_m_judge_61 : decode c_m_judge 61 = .ok (.iconst 0, 1) := by decide +kernel
theorem d_m_judge_62 : decode c_m_judge 62 = .ok (.istore_n 3, 1) := by decide +kernel
theorem d_m_judge_63 : decode c_m_judge 63 = .ok (.iload_n 3, 1) := by decide +kernel
theorem d_m_judge_64 : decode c_m_judge 64 = .ok (.bipush 8, 2) := by decide +kernel
theorem d_m_judge_66 : decode c_m_judge 66 = .ok (.if_icmp .ge 34, 3) := by decide +kernel
theorem d_m_judge_69 : decode c_m_judge 69 = .ok (.aload_n 0, 1) := by decide +kernel
theorem d_m_judge_70 : decode c_m_judge 70 = .ok (.getfield 38, 3) := by decide +kernel
theorem d_m_judge_73 : decode c_m_judge 73 = .ok (.bipush 8, 2) := by decide +kernel
theorem d_m_judge_75 : decode c_m_judge 75 = .ok (.aload_n 0, 1) := by decide +kernel
theorem d_m_judge_76 : decode c_m_judge 76 = .ok (.getfield 101, 3) := by decide +kernel
theorem d_m_judge_79 : decode c_m_judge 79 = .ok (.iconst 3, 1) := by decide +kernel
theorem d_m_judge_80 : decode c_m_judge 80 = .ok (.irem, 1) := by decide +kernel
theorem d_m_judge_81 : decode c_m_judge 81 = .ok (.imul, 1) := by decide +kernel
theorem d_m_judge_82 : decode c_m_judge 82 = .ok (.iload_n 3, 1) := by decide +kernel
theorem d_m_judge_83 : decode c_m_judge 83 = .ok (.iadd, 1) := by decide +kernel
theorem d_m_judge_84 : decode c_m_judge 84 = .ok (.aload_n 0, 1) := by decide +kernel
theorem d_m_judge_85 : decode c_m_judge 85 = .ok (.iload_n 1, 1) := by decide +kernel
theorem d_m_judge_86 : decode c_m_judge 86 = .ok (.bipush 12, 2) := by decide +kernel
theorem d_m_judge_88 : decode c_m_judge 88 = .ok (.iload_n 3, 1) := by decide +kernel
theorem d_m_judge_89 : decode c_m_judge 89 = .ok (.iadd, 1) := by decide +kernel
theorem d_m_judge_90 : decode c_m_judge 90 = .ok (.invokevirtual 48, 3) := by decide +kernel
theorem d_m_judge_93 : decode c_m_judge 93 = .ok (.iastore, 1) := by decide +kernel
theorem d_m_judge_94 : decode c_m_judge 94 = .ok (.iinc 3 1, 3) := by decide +kernel
theorem d_m_judge_97 : decode c_m_judge 97 = .ok (.goto (-34), 3) := by decide +kernel
theorem d_m_judge_100 : decode c_m_judge 100 = .ok (.aload_n 0, 1) := by decide +kernel
theorem d_m_judge_101 : decode c_m_judge 101 = .ok (.dup, 1) := by decide +kernel
theorem d_m_judge_102 : decode c_m_judge 102 = .ok (.getfield 101, 3) := by decide +kernel
theorem d_m_judge_105 : decode c_m_judge 105 = .ok (.iconst 1, 1) := by decide +kernel
theorem d_m_judge_106 : decode c_m_judge 106 = .ok (.iadd, 1) := by decide +kernel
theorem d_m_judge_107 : decode c_m_judge 107 = .ok (.putfield 101, 3) := by decide +kernel
theorem d_m_judge_110 : decode c_m_judge 110 = .ok (.return_, 1) := by decide +kernel
theorem d_m_pay_0 : decode c_m_pay 0 = .ok (.aload_n 0, 1) := by decide +kernel
theorem d_m_pay_1 : decode c_m_pay 1 = .ok (.invokevirtual 107, 3) := by decide +kernel
theorem d_m_pay_4 : decode c_m_pay 4 = .ok (.ifCond .ne 4, 3) := by decide +kernel
theorem d_m_pay_7 : decode c_m_pay 7 = .ok (.return_, 1) := by decide +kernel
theorem d_m_pay_8 : decode c_m_pay 8 = .ok (.aload_n 0, 1) := by decide +kernel
theorem d_m_pay_9 : decode c_m_pay 9 = .ok (.getfield 16, 3) := by decide +kernel
theorem d_m_pay_12 : decode c_m_pay 12 = .ok (.bipush 6, 2) := by decide +kernel
theorem d_m_pay_14 : decode c_m_pay 14 = .ok (.aload_n 0, 1) := by decide +kernel
theorem d_m_pay_15 : decode c_m_pay 15 = .ok (.iload_n 1, 1) := by decide +kernel
theorem d_m_pay_16 : decode c_m_pay 16 = .ok (.iconst 4, 1) := by decide +kernel
theorem d_m_pay_17 : decode c_m_pay 17 = .ok (.invokevirtual 48, 3) := by decide +kernel
theorem d_m_pay_20 : decode c_m_pay 20 = .ok (.imul, 1) := by decide +kernel
theorem d_m_pay_21 : decode c_m_pay 21 = .ok (.iconst 1, 1) := by decide +kernel
theorem d_m_pay_22 : decode c_m_pay 22 = .ok (.iadd, 1) := by decide +kernel
theorem d_m_pay_23 : decode c_m_pay 23 = .ok (.iaload, 1) := by decide +kernel
theorem d_m_pay_24 : decode c_m_pay 24 = .ok (.istore_n 2, 1) := by decide +kernel
theorem d_m_pay_25 : decode c_m_pay 25 = .ok (.aload_n 0, 1) := by decide +kernel
theorem d_m_pay_26 : decode c_m_pay 26 = .ok (.iload_n 1, 1) := by decide +kernel
theorem d_m_pay_27 : decode c_m_pay 27 = .ok (.iconst 5, 1) := by decide +kernel
theorem d_m_pay_28 : decode c_m_pay 28 = .ok (.iconst 1, 1) := by decide +kernel
theorem d_m_pay_29 : decode c_m_pay 29 = .ok (.invokevirtual 78, 3) := by decide +kernel
theorem d_m_pay_32 : decode c_m_pay 32 = .ok (.aload_n 0, 1) := by decide +kernel
theorem d_m_pay_33 : decode c_m_pay 33 = .ok (.dup, 1) := by decide +kernel
theorem d_m_pay_34 : decode c_m_pay 34 = .ok (.getfield 110, 3) := by decide +kernel
theorem d_m_pay_37 : decode c_m_pay 37 = .ok (.iload_n 2, 1) := by decide +kernel
theorem d_m_pay_38 : decode c_m_pay 38 = .ok (.iadd, 1) := by decide +kernel
theorem d_m_pay_39 : decode c_m_pay 39 = .ok (.putfield 110, 3) := by decide +kernel
theorem d_m_pay_42 : decode c_m_pay 42 = .ok (.aload_n 0, 1) := by decide +kernel
theorem d_m_pay_43 : decode c_m_pay 43 = .ok (.dup, 1) := by decide +kernel
theorem d_m_pay_44 : decode c_m_pay 44 = .ok (.getfield 113, 3) := by decide +kernel
theorem d_m_pay_47 : decode c_m_pay 47 = .ok (.iconst 1, 1) := by decide +kernel
theorem d_m_pay_48 : decode c_m_pay 48 = .ok (.iadd, 1) := by decide +kernel
theorem d_m_pay_49 : decode c_m_pay 49 = .ok (.putfield 113, 3) := by decide +kernel
theorem d_m_pay_52 : decode c_m_pay 52 = .ok (.aload_n 0, 1) := by decide +kernel
theorem d_m_pay_53 : decode c_m_pay 53 = .ok (.dup, 1) := by decide +kernel
theorem d_m_pay_54 : decode c_m_pay 54 = .ok (.getfield 116, 3) := by decide +kernel
theorem d_m_pay_57 : decode c_m_pay 57 = .ok (.iload_n 2, 1) := by decide +kernel
theorem d_m_pay_58 : decode c_m_pay 58 = .ok (.iadd, 1) := by decide +kernel
theorem d_m_pay_59 : decode c_m_pay 59 = .ok (.putfield 116, 3) := by decide +kernel
theorem d_m_pay_62 : decode c_m_pay 62 = .ok (.return_, 1) := by decide +kernel
theorem d_m_drop_0 : decode c_m_drop 0 = .ok (.aload_n 0, 1) := by decide +kernel
theorem d_m_drop_1 : decode c_m_drop 1 = .ok (.invokevirtual 107, 3) := by decide +kernel
theorem d_m_drop_4 : decode c_m_drop 4 = .ok (.ifCond .ne 5, 3) := by decide +kernel
theorem d_m_drop_7 : decode c_m_drop 7 = .ok (.iconst 0, 1) := by decide +kernel
theorem d_m_drop_8 : decode c_m_drop 8 = .ok (.ireturn, 1) := by decide +kernel
theorem d_m_drop_9 : decode c_m_drop 9 = .ok (.aload_n 0, 1) := by decide +kernel
theorem d_m_drop_10 : decode c_m_drop 10 = .ok (.getfield 22, 3) := by decide +kernel
theorem d_m_drop_13 : decode c_m_drop 13 = .ok (.aload_n 0, 1) := by decide +kernel
theorem d_m_drop_14 : decode c_m_drop 14 = .ok (.getfield 16, 3) := by decide +kernel
theorem d_m_drop_17 : decode c_m_drop 17 = .ok (.bipush 6, 2) := by decide +kernel
theorem d_m_drop_19 : decode c_m_drop 19 = .ok (.aload_n 0, 1) := by decide +kernel
theorem d_m_drop_20 : decode c_m_drop 20 = .ok (.iload_n 1, 1) := by decide +kernel
theorem d_m_drop_21 : decode c_m_drop 21 = .ok (.iconst 4, 1) := by decide +kernel
theorem d_m_drop_22 : decode c_m_drop 22 = .ok (.invokevirtual 48, 3) := by decide +kernel
theorem d_m_drop_25 : decode c_m_drop 25 = .ok (.imul, 1) := by decide +kernel
theorem d_m_drop_26 : decode c_m_drop 26 = .ok (.iconst 2, 1) := by decide +kernel
theorem d_m_drop_27 : decode c_m_drop 27 = .ok (.iadd, 1) := by decide +kernel
theorem d_m_drop_28 : decode c_m_drop 28 = .ok (.iaload, 1) := by decide +kernel
theorem d_m_drop_29 : decode c_m_drop 29 = .ok (.dup2, 1) := by decide +kernel
theorem d_m_drop_30 : decode c_m_drop 30 = .ok (.iaload, 1) := by decide +kernel
theorem d_m_drop_31 : decode c_m_drop 31 = .ok (.iconst 1, 1) := by decide +kernel
theorem d_m_drop_32 : decode c_m_drop 32 = .ok (.iadd, 1) := by decide +kernel
theorem d_m_drop_33 : decode c_m_drop 33 = .ok (.iastore, 1) := by decide +kernel
theorem d_m_drop_34 : decode c_m_drop 34 = .ok (.aload_n 0, 1) := by decide +kernel
theorem d_m_drop_35 : decode c_m_drop 35 = .ok (.iconst 0, 1) := by decide +kernel
theorem d_m_drop_36 : decode c_m_drop 36 = .ok (.putfield 91, 3) := by decide +kernel
theorem d_m_drop_39 : decode c_m_drop 39 = .ok (.aload_n 0, 1) := by decide +kernel
theorem d_m_drop_40 : decode c_m_drop 40 = .ok (.iload_n 1, 1) := by decide +kernel
theorem d_m_drop_41 : decode c_m_drop 41 = .ok (.invokevirtual 119, 3) := by decide +kernel
theorem d_m_drop_44 : decode c_m_drop 44 = .ok (.iconst 1, 1) := by decide +kernel
theorem d_m_drop_45 : decode c_m_drop 45 = .ok (.ireturn, 1) := by decide +kernel
theorem d_m_forward_0 : decode c_m_forward 0 = .ok (.aload_n 0, 1) := by decide +kernel
theorem d_m_forward_1 : decode c_m_forward 1 = .ok (.aload_n 0, 1) := by decide +kernel
theorem d_m_forward_2 : decode c_m_forward 2 = .ok (.getfield 55, 3) := by decide +kernel
theorem d_m_forward_5 : decode c_m_forward 5 = .ok (.iconst 1, 1) := by decide +kernel
theorem d_m_forward_6 : decode c_m_forward 6 = .ok (.invokevirtual 59, 3) := by decide +kernel
theorem d_m_forward_9 : decode c_m_forward 9 = .ok (.ifCond .ne 27, 3) := by decide +kernel
theorem d_m_forward_12 : decode c_m_forward 12 = .ok (.aload_n 0, 1) := by decide +kernel
theorem d_m_forward_13 : decode c_m_forward 13 = .ok (.iload_n 1, 1) := by decide +kernel
theorem d_m_forward_14 : decode c_m_forward 14 = .ok (.iconst 0, 1) := by decide +kernel
theorem d_m_forward_15 : decode c_m_forward 15 = .ok (.sipush 300, 3) := by decide +kernel
theorem d_m_forward_18 : decode c_m_forward 18 = .ok (.invokestatic 63, 3) := by decide +kernel
theorem d_m_forward_21 : decode c_m_forward 21 = .ok (.ifCond .ne 7, 3) := by decide +kernel
theorem d_m_forward_24 : decode c_m_forward 24 = .ok (.iconst 1, 1) := by decide +kernel
theorem d_m_forward_25 : decode c_m_forward 25 = .ok (.goto 4, 3) := by decide +kernel
theorem d_m_forward_28 : decode c_m_forward 28 = .ok (.iconst 0, 1) := by decide +kernel
theorem d_m_forward_29 : decode c_m_forward 29 = .ok (.iconst 2, 1) := by decide +kernel
theorem d_m_forward_30 : decode c_m_forward 30 = .ok (.invokevirtual 59, 3) := by decide +kernel
theorem d_m_forward_33 : decode c_m_forward 33 = .ok (.ifCond .eq 5, 3) := by decide +kernel
theorem d_m_forward_36 : decode c_m_forward 36 = .ok (.iconst 0, 1) := by decide +kernel
theorem d_m_forward_37 : decode c_m_forward 37 = .ok (.ireturn, 1) := by decide +kernel
theorem d_m_forward_38 : decode c_m_forward 38 = .ok (.iconst 0, 1) := by decide +kernel
theorem d_m_forward_39 : decode c_m_forward 39 = .ok (.istore_n 2, 1) := by decide +kernel
theorem d_m_forward_40 : decode c_m_forward 40 = .ok (.iload_n 2, 1) := by decide +kernel
theorem d_m_forward_41 : decode c_m_forward 41 = .ok (.iload_n 1, 1) := by decide +kernel
theorem d_m_forward_42 : decode c_m_forward 42 = .ok (.if_icmp .ge 151, 3) := by decide +kernel
theorem d_m_forward_45 : decode c_m_forward 45 = .ok (.aload_n 0, 1) := by decide +kernel
theorem d_m_forward_46 : decode c_m_forward 46 = .ok (.getfield 55, 3) := by decide +kernel
theorem d_m_forward_49 : decode c_m_forward 49 = .ok (.ifCond .ne 144, 3) := by decide +kernel
theorem d_m_forward_52 : decode c_m_forward 52 = .ok (.aload_n 0, 1) := by decide +kernel
theorem d_m_forward_53 : decode c_m_forward 53 = .ok (.invokevirtual 123, 3) := by decide +kernel
theorem d_m_forward_56 : decode c_m_forward 56 = .ok (.ifCond .ne 137, 3) := by decide +kernel
theorem d_m_forward_59 : decode c_m_forward 59 = .ok (.iconst 0, 1) := by decide +kernel
theorem d_m_forward_60 : decode c_m_forward 60 = .ok (.istore_n 3, 1) := by decide +kernel
theorem d_m_forward_61 : decode c_m_forward 61 = .ok (.iload_n 3, 1) := by decide +kernel
theorem d_m_forward_62 : decode c_m_forward 62 = .ok (.aload_n 0, 1) := by decide +kernel
theorem d_m_forward_63 : decode c_m_forward 63 = .ok (.getfield 52, 3) := by decide +kernel
theorem d_m_forward_66 : decode c_m_forward 66 = .ok (.if_icmp .ge 23, 3) := by decide +kernel
theorem d_m_forward_69 : decode c_m_forward 69 = .ok (.aload_n 0, 1) := by decide +kernel
theorem d_m_forward_70 : decode c_m_forward 70 = .ok (.iload_n 3, 1) := by decide +kernel
theorem d_m_forward_71 : decode c_m_forward 71 = .ok (.iconst 2, 1) := by decide +kernel
theorem d_m_forward_72 : decode c_m_forward 72 = .ok (.aload_n 0, 1) := by decide +kernel
theorem d_m_forward_73 : decode c_m_forward 73 = .ok (.iload_n 3, 1) := by decide +kernel
theorem d_m_forward_74 : decode c_m_forward 74 = .ok (.iconst 2, 1) := by decide +kernel
theorem d_m_forward_75 : decode c_m_forward 75 = .ok (.invokevirtual 48, 3) := by decide +kernel
theorem d_m_forward_78 : decode c_m_forward 78 = .ok (.iconst 1, 1) := by decide +kernel
theorem d_m_forward_79 : decode c_m_forward 79 = .ok (.iadd, 1) := by decide +kernel
theorem d_m_forward_80 : decode c_m_forward 80 = .ok (.invokevirtual 78, 3) := by decide +kernel
theorem d_m_forward_83 : decode c_m_forward 83 = .ok (.iinc 3 1, 3) := by decide +kernel
theorem d_m_forward_86 : decode c_m_forward 86 = .ok (.goto (-25), 3) := by decide +kernel
theorem d_m_forward_89 : decode c_m_forward 89 = .ok (.iinc 2 1, 3) := by decide +kernel
theorem d_m_forward_92 : decode c_m_forward 92 = .ok (.iconst 0, 1) := by decide +kernel
theorem d_m_forward_93 : decode c_m_forward 93 = .ok (.istore_n 3, 1) := by decide +kernel
theorem d_m_forward_94 : decode c_m_forward 94 = .ok (.iload_n 3, 1) := by decide +kernel
theorem d_m_forward_95 : decode c_m_forward 95 = .ok (.aload_n 0, 1) := by decide +kernel
theorem d_m_forward_96 : decode c_m_forward 96 = .ok (.getfield 52, 3) := by decide +kernel
theorem d_m_forward_99 : decode c_m_forward 99 = .ok (.if_icmp .ge 91, 3) := by decide +kernel
theorem d_m_forward_102 : decode c_m_forward 102 = .ok (.aload_n 0, 1) := by decide +kernel
theorem d_m_forward_103 : decode c_m_forward 103 = .ok (.getfield 55, 3) := by decide +kernel
theorem d_m_forward_106 : decode c_m_forward 106 = .ok (.ifCond .ne 84, 3) := by decide +kernel
theorem d_m_forward_109 : decode c_m_forward 109 = .ok (.iconst 0, 1) := by decide +kernel
theorem d_m_forward_110 : decode c_m_forward 110 = .ok (.istore 4, 2) := by decide +kernel
theorem d_m_forward_112 : decode c_m_forward 112 = .ok (.aload_n 0, 1) := by decide +kernel
theorem d_m_forward_113 : decode c_m_forward 113 = .ok (.iload_n 3, 1) := by decide +kernel
theorem d_m_forward_114 : decode c_m_forward 114 = .ok (.invokevirtual 72, 3) := by decide +kernel
theorem d_m_forward_117 : decode c_m_forward 117 = .ok (.bipush 60, 2) := by decide +kernel
theorem d_m_forward_119 : decode c_m_forward 119 = .ok (.if_icmp .ne 8, 3) := by decide +kernel
theorem d_m_forward_122 : decode c_m_forward 122 = .ok (.aload_n 0, 1) := by decide +kernel
theorem d_m_forward_123 : decode c_m_forward 123 = .ok (.iload_n 3, 1) := by decide +kernel
theorem d_m_forward_124 : decode c_m_forward 124 = .ok (.invokevirtual 126, 3) := by decide +kernel
theorem d_m_forward_127 : decode c_m_forward 127 = .ok (.aload_n 0, 1) := by decide +kernel
theorem d_m_forward_128 : decode c_m_forward 128 = .ok (.getfield 55, 3) := by decide +kernel
theorem d_m_forward_131 : decode c_m_forward 131 = .ok (.ifCond .ne 19, 3) := by decide +kernel
theorem d_m_forward_134 : decode c_m_forward 134 = .ok (.aload_n 0, 1) := by decide +kernel
theorem d_m_forward_135 : decode c_m_forward 135 = .ok (.iload_n 3, 1) := by decide +kernel
theorem d_m_forward_136 : decode c_m_forward 136 = .ok (.iconst 2, 1) := by decide +kernel
theorem d_m_forward_137 : decode c_m_forward 137 = .ok (.invokevirtual 48, 3) := by decide +kernel
theorem d_m_forward_140 : decode c_m_forward 140 = .ok (.bipush 105, 2) := by decide +kernel
theorem d_m_forward_142 : decode c_m_forward 142 = .ok (.if_icmp .ne 8, 3) := by decide +kernel
theorem d_m_forward_145 : decode c_m_forward 145 = .ok (.aload_n 0, 1) := by decide +kernel
theorem d_m_forward_146 : decode c_m_forward 146 = .ok (.iload_n 3, 1) := by decide +kernel
theorem d_m_forward_147 : decode c_m_forward 147 = .ok (.invokevirtual 129, 3) := by decide +kernel
theorem d_m_forward_150 : decode c_m_forward 150 = .ok (.aload_n 0, 1) := by decide +kernel
theorem d_m_forward_151 : decode c_m_forward 151 = .ok (.getfield 55, 3) := by decide +kernel
theorem d_m_forward_154 : decode c_m_forward 154 = .ok (.ifCond .ne 20, 3) := by decide +kernel
theorem d_m_forward_157 : decode c_m_forward 157 = .ok (.aload_n 0, 1) := by decide +kernel
theorem d_m_forward_158 : decode c_m_forward 158 = .ok (.iload_n 3, 1) := by decide +kernel
theorem d_m_forward_159 : decode c_m_forward 159 = .ok (.invokevirtual 72, 3) := by decide +kernel
theorem d_m_forward_162 : decode c_m_forward 162 = .ok (.bipush 110, 2) := by decide +kernel
theorem d_m_forward_164 : decode c_m_forward 164 = .ok (.if_icmp .ne 10, 3) := by decide +kernel
theorem d_m_forward_167 : decode c_m_forward 167 = .ok (.aload_n 0, 1) := by decide +kernel
theorem d_m_forward_168 : decode c_m_forward 168 = .ok (.iload_n 3, 1) := by decide +kernel
theorem d_m_forward_169 : decode c_m_forward 169 = .ok (.invokevirtual 132, 3) := by decide +kernel
theorem d_m_forward_172 : decode c_m_forward 172 = .ok (.istore 4, 2) := by decide +kernel
theorem d_m_forward_174 : decode c_m_forward 174 = .ok (.iload_n 3, 1) := by decide +kernel
theorem d_m_forward_175 : decode c_m_forward 175 = .ok (.iload 4, 2) := by decide +kernel
theorem d_m_forward_177 : decode c_m_forward 177 = .ok (.ifCond .eq 7, 3) := by decide +kernel
theorem d_m_forward_180 : decode c_m_forward 180 = .ok (.iconst 0, 1) := by decide +kernel
theorem d_m_forward_181 : decode c_m_forward 181 = .ok (.goto 4, 3) := by decide +kernel
theorem d_m_forward_184 : decode c_m_forward 184 = .ok (.iconst 1, 1) := by decide +kernel
theorem d_m_forward_185 : decode c_m_forward 185 = .ok (.iadd, 1) := by decide +kernel
theorem d_m_forward_186 : decode c_m_forward 186 = .ok (.istore_n 3, 1) := by decide +kernel
theorem d_m_forward_187 : decode c_m_forward 187 = .ok (.goto (-93), 3) := by decide +kernel
theorem d_m_forward_190 : decode c_m_forward 190 = .ok (.goto (-150), 3) := by decide +kernel
theorem d_m_forward_193 : decode c_m_forward 193 = .ok (.iload_n 2, 1) := by decide +kernel
theorem d_m_forward_194 : decode c_m_forward 194 = .ok (.ireturn, 1) := by decide +kernel
theorem d_m_forget_0 : decode c_m_forget 0 = .ok (.aload_n 0, 1) := by decide +kernel
theorem d_m_forget_1 : decode c_m_forget 1 = .ok (.iload_n 1, 1) := by decide +kernel
theorem d_m_forget_2 : decode c_m_forget 2 = .ok (.iconst 3, 1) := by decide +kernel
theorem d_m_forget_3 : decode c_m_forget 3 = .ok (.iconst 0, 1) := by decide +kernel
theorem d_m_forget_4 : decode c_m_forget 4 = .ok (.invokevirtual 78, 3) := by decide +kernel
theorem d_m_forget_7 : decode c_m_forget 7 = .ok (.aload_n 0, 1) := by decide +kernel
theorem d_m_forget_8 : decode c_m_forget 8 = .ok (.iload_n 1, 1) := by decide +kernel
theorem d_m_forget_9 : decode c_m_forget 9 = .ok (.iconst 4, 1) := by decide +kernel
theorem d_m_forget_10 : decode c_m_forget 10 = .ok (.iconst (-1), 1) := by decide +kernel
theorem d_m_forget_11 : decode c_m_forget 11 = .ok (.invokevirtual 78, 3) := by decide +kernel
theorem d_m_forget_14 : decode c_m_forget 14 = .ok (.aload_n 0, 1) := by decide +kernel
theorem d_m_forget_15 : decode c_m_forget 15 = .ok (.iload_n 1, 1) := by decide +kernel
theorem d_m_forget_16 : decode c_m_forget 16 = .ok (.bipush 6, 2) := by decide +kernel
theorem d_m_forget_18 : decode c_m_forget 18 = .ok (.iconst (-1), 1) := by decide +kernel
theorem d_m_forget_19 : decode c_m_forget 19 = .ok (.invokevirtual 78, 3) := by decide +kernel
theorem d_m_forget_22 : decode c_m_forget 22 = .ok (.aload_n 0, 1) := by decide +kernel
theorem d_m_forget_23 : decode c_m_forget 23 = .ok (.iload_n 1, 1) := by decide +kernel
theorem d_m_forget_24 : decode c_m_forget 24 = .ok (.bipush 7, 2) := by decide +kernel
theorem d_m_forget_26 : decode c_m_forget 26 = .ok (.iconst 0, 1) := by decide +kernel
theorem d_m_forget_27 : decode c_m_forget 27 = .ok (.invokevirtual 78, 3) := by decide +kernel
theorem d_m_forget_30 : decode c_m_forget 30 = .ok (.aload_n 0, 1) := by decide +kernel
theorem d_m_forget_31 : decode c_m_forget 31 = .ok (.iload_n 1, 1) := by decide +kernel
theorem d_m_forget_32 : decode c_m_forget 32 = .ok (.bipush 8, 2) := by decide +kernel
theorem d_m_forget_34 : decode c_m_forget 34 = .ok (.iconst 0, 1) := by decide +kernel
theorem d_m_forget_35 : decode c_m_forget 35 = .ok (.invokevirtual 78, 3) := by decide +kernel
theorem d_m_forget_38 : decode c_m_forget 38 = .ok (.return_, 1) := by decide +kernel
theorem d_m_back_0 : decode c_m_back 0 = .ok (.aload_n 0, 1) := by decide +kernel
theorem d_m_back_1 : decode c_m_back 1 = .ok (.aload_n 0, 1) := by decide +kernel
theorem d_m_back_2 : decode c_m_back 2 = .ok (.getfield 55, 3) := by decide +kernel
theorem d_m_back_5 : decode c_m_back 5 = .ok (.iconst 1, 1) := by decide +kernel
theorem d_m_back_6 : decode c_m_back 6 = .ok (.invokevirtual 59, 3) := by decide +kernel
theorem d_m_back_9 : decode c_m_back 9 = .ok (.ifCond .ne 27, 3) := by decide +kernel
theorem d_m_back_12 : decode c_m_back 12 = .ok (.aload_n 0, 1) := by decide +kernel
theorem d_m_back_13 : decode c_m_back 13 = .ok (.iload_n 1, 1) := by decide +kernel
theorem d_m_back_14 : decode c_m_back 14 = .ok (.iconst 0, 1) := by decide +kernel
theorem d_m_back_15 : decode c_m_back 15 = .ok (.sipush 300, 3) := by decide +kernel
theorem d_m_back_18 : decode c_m_back 18 = .ok (.invokestatic 63, 3) := by decide +kernel
theorem d_m_back_21 : decode c_m_back 21 = .ok (.ifCond .ne 7, 3) := by decide +kernel
theorem d_m_back_24 : decode c_m_back 24 = .ok (.iconst 1, 1) := by decide +kernel
theorem d_m_back_25 : decode c_m_back 25 = .ok (.goto 4, 3) := by decide +kernel
theorem d_m_back_28 : decode c_m_back 28 = .ok (.iconst 0, 1) := by decide +kernel
theorem d_m_back_29 : decode c_m_back 29 = .ok (.iconst 2, 1) := by decide +kernel
theorem d_m_back_30 : decode c_m_back 30 = .ok (.invokevirtual 59, 3) := by decide +kernel
theorem d_m_back_33 : decode c_m_back 33 = .ok (.ifCond .eq 5, 3) := by decide +kernel
theorem d_m_back_36 : decode c_m_back 36 = .ok (.iconst 0, 1) := by decide +kernel
theorem d_m_back_37 : decode c_m_back 37 = .ok (.ireturn, 1) := by decide +kernel
theorem d_m_back_38 : decode c_m_back 38 = .ok (.iconst 0, 1) := by decide +kernel
theorem d_m_back_39 : decode c_m_back 39 = .ok (.istore_n 2, 1) := by decide +kernel
theorem d_m_back_40 : decode c_m_back 40 = .ok (.iconst 0, 1) := by decide +kernel
theorem d_m_back_41 : decode c_m_back 41 = .ok (.istore_n 3, 1) := by decide +kernel
theorem d_m_back_42 : decode c_m_back 42 = .ok (.iload_n 3, 1) := by decide +kernel
theorem d_m_back_43 : decode c_m_back 43 = .ok (.iload_n 1, 1) := by decide +kernel
theorem d_m_back_44 : decode c_m_back 44 = .ok (.if_icmp .ge 123, 3) := by decide +kernel
theorem d_m_back_47 : decode c_m_back 47 = .ok (.iconst 0, 1) := by decide +kernel
theorem d_m_back_48 : decode c_m_back 48 = .ok (.istore 4, 2) := by decide +kernel
theorem d_m_back_50 : decode c_m_back 50 = .ok (.aload_n 0, 1) := by decide +kernel
theorem d_m_back_51 : decode c_m_back 51 = .ok (.getfield 52, 3) := by decide +kernel
theorem d_m_back_54 : decode c_m_back 54 = .ok (.iconst 1, 1) := by decide +kernel
theorem d_m_back_55 : decode c_m_back 55 = .ok (.isub, 1) := by decide +kernel
theorem d_m_back_56 : decode c_m_back 56 = .ok (.istore 5, 2) := by decide +kernel
theorem d_m_back_58 : decode c_m_back 58 = .ok (.iload 5, 2) := by decide +kernel
theorem d_m_back_60 : decode c_m_back 60 = .ok (.ifCond .lt 82, 3) := by decide +kernel
theorem d_m_back_63 : decode c_m_back 63 = .ok (.aload_n 0, 1) := by decide +kernel
theorem d_m_back_64 : decode c_m_back 64 = .ok (.iload 5, 2) := by decide +kernel
theorem d_m_back_66 : decode c_m_back 66 = .ok (.iconst 2, 1) := by decide +kernel
theorem d_m_back_67 : decode c_m_back 67 = .ok (.invokevirtual 48, 3) := by decide +kernel
theorem d_m_back_70 : decode c_m_back 70 = .ok (.bipush 104, 2) := by decide +kernel
theorem d_m_back_72 : decode c_m_back 72 = .ok (.if_icmp .le 6, 3) := by decide +kernel
theorem d_m_back_75 : decode c_m_back 75 = .ok (.goto 61, 3) := by decide +kernel
theorem d_m_back_78 : decode c_m_back 78 = .ok (.iconst 1, 1) := by decide +kernel
theorem d_m_back_79 : decode c_m_back 79 = .ok (.istore 4, 2) := by decide +kernel
theorem d_m_back_81 : decode c_m_back 81 = .ok (.aload_n 0, 1) := by decide +kernel
theorem d_m_back_82 : decode c_m_back 82 = .ok (.iload 5, 2) := by decide +kernel
theorem d_m_back_84 : decode c_m_back 84 = .ok (.iconst 2, 1) := by decide +kernel
theorem d_m_back_85 : decode c_m_back 85 = .ok (.aload_n 0, 1) := by decide +kernel
theorem d_m_back_86 : decode c_m_back 86 = .ok (.iload 5, 2) := by decide +kernel
theorem d_m_back_88 : decode c_m_back 88 = .ok (.iconst 2, 1) := by decide +kernel
theorem d_m_back_89 : decode c_m_back 89 = .ok (.invokevirtual 48, 3) := by decide +kernel
theorem d_m_back_92 : decode c_m_back 92 = .ok (.iconst 1, 1) := by decide +kernel
theorem d_m_back_93 : decode c_m_back 93 = .ok (.isub, 1) := by decide +kernel
theorem d_m_back_94 : decode c_m_back 94 = .ok (.invokevirtual 78, 3) := by decide +kernel
theorem d_m_back_97 : decode c_m_back 97 = .ok (.aload_n 0, 1) := by decide +kernel
theorem d_m_back_98 : decode c_m_back 98 = .ok (.iload 5, 2) := by decide +kernel
theorem d_m_back_100 : decode c_m_back 100 = .ok (.invokevirtual 72, 3) := by decide +kernel
theorem d_m_back_103 : decode c_m_back 103 = .ok (.bipush 59, 2) := by decide +kernel
theorem d_m_back_105 : decode c_m_back 105 = .ok (.if_icmp .ne 9, 3) := by decide +kernel
theorem d_m_back_108 : decode c_m_back 108 = .ok (.aload_n 0, 1) := by decide +kernel
theorem d_m_back_109 : decode c_m_back 109 = .ok (.iload 5, 2) := by decide +kernel
theorem d_m_back_111 : decode c_m_back 111 = .ok (.invokevirtual 136, 3) := by decide +kernel
theorem d_m_back_114 : decode c_m_back 114 = .ok (.aload_n 0, 1) := by decide +kernel
theorem d_m_back_115 : decode c_m_back 115 = .ok (.iload 5, 2) := by decide +kernel
theorem d_m_back_117 : decode c_m_back 117 = .ok (.iconst 2, 1) := by decide +kernel
theorem d_m_back_118 : decode c_m_back 118 = .ok (.invokevirtual 48, 3) := by decide +kernel
theorem d_m_back_121 : decode c_m_back 121 = .ok (.ifCond .lt 6, 3) := by decide +kernel
theorem d_m_back_124 : decode c_m_back 124 = .ok (.goto 12, 3) := by decide +kernel
theorem d_m_back_127 : decode c_m_back 127 = .ok (.aload_n 0, 1) := by decide +kernel
theorem d_m_back_128 : decode c_m_back 128 = .ok (.iload 5, 2) := by decide +kernel
theorem d_m_back_130 : decode c_m_back 130 = .ok (.invokevirtual 119, 3) := by decide +kernel
theorem d_m_back_133 : decode c_m_back 133 = .ok (.iinc 2 1, 3) := by decide +kernel
theorem d_m_back_136 : decode c_m_back 136 = .ok (.iinc 5 (-1), 3) := by decide +kernel
theorem d_m_back_139 : decode c_m_back 139 = .ok (.goto (-81), 3) := by decide +kernel
theorem d_m_back_142 : decode c_m_back 142 = .ok (.aload_n 0, 1) := by decide +kernel
theorem d_m_back_143 : decode c_m_back 143 = .ok (.dup, 1) := by decide +kernel
theorem d_m_back_144 : decode c_m_back 144 = .ok (.getfield 91, 3) := by decide +kernel
theorem d_m_back_147 : decode c_m_back 147 = .ok (.iload 4, 2) := by decide +kernel
theorem d_m_back_149 : decode c_m_back 149 = .ok (.ifCond .eq 7, 3) := by decide +kernel
theorem d_m_back_152 : decode c_m_back 152 = .ok (.iconst 1, 1) := by decide +kernel
theorem d_m_back_153 : decode c_m_back 153 = .ok (.goto 4, 3) := by decide +kernel
theorem d_m_back_156 : decode c_m_back 156 = .ok (.iconst 0, 1) := by decide +kernel
theorem d_m_back_157 : decode c_m_back 157 = .ok (.iadd, 1) := by decide +kernel
theorem d_m_back_158 : decode c_m_back 158 = .ok (.putfield 91, 3) := by decide +kernel
theorem d_m_back_161 : decode c_m_back 161 = .ok (.iinc 3 1, 3) := by decide +kernel
theorem d_m_back_164 : decode c_m_back 164 = .ok (.goto (-122), 3) := by decide +kernel
theorem d_m_back_167 : decode c_m_back 167 = .ok (.iload_n 2, 1) := by decide +kernel
theorem d_m_back_168 : decode c_m_back 168 = .ok (.ireturn, 1) := by decide +kernel
theorem d_m_voucher_0 : decode c_m_voucher 0 = .ok (.aload_n 0, 1) := by decide +kernel
theorem d_m_voucher_1 : decode c_m_voucher 1 = .ok (.aload_n 0, 1) := by decide +kernel
theorem d_m_voucher_2 : decode c_m_voucher 2 = .ok (.getfield 55, 3) := by decide +kernel
theorem d_m_voucher_5 : decode c_m_voucher 5 = .ok (.iconst 1, 1) := by decide +kernel
theorem d_m_voucher_6 : decode c_m_voucher 6 = .ok (.invokevirtual 59, 3) := by decide +kernel
theorem d_m_voucher_9 : decode c_m_voucher 9 = .ok (.ifCond .eq 5, 3) := by decide +kernel
theorem d_m_voucher_12 : decode c_m_voucher 12 = .ok (.iconst 0, 1) := by decide +kernel
theorem d_m_voucher_13 : decode c_m_voucher 13 = .ok (.ireturn, 1) := by decide +kernel
theorem d_m_voucher_14 : decode c_m_voucher 14 = .ok (.aload_n 0, 1) := by decide +kernel
theorem d_m_voucher_15 : decode c_m_voucher 15 = .ok (.getfield 110, 3) := by decide +kernel
theorem d_m_voucher_18 : decode c_m_voucher 18 = .ok (.ifCond .eq 19, 3) := by decide +kernel
theorem d_m_voucher_21 : decode c_m_voucher 21 = .ok (.aload_n 0, 1) := by decide +kernel
theorem d_m_voucher_22 : decode c_m_voucher 22 = .ok (.getfield 94, 3) := by decide +kernel
theorem d_m_voucher_25 : decode c_m_voucher 25 = .ok (.bipush 60, 2) := by decide +kernel
theorem d_m_voucher_27 : decode c_m_voucher 27 = .ok (.if_icmp .eq 10, 3) := by decide +kernel
theorem d_m_voucher_30 : decode c_m_voucher 30 = .ok (.aload_n 0, 1) := by decide +kernel
theorem d_m_voucher_31 : decode c_m_voucher 31 = .ok (.invokevirtual 107, 3) := by decide +kernel
theorem d_m_voucher_34 : decode c_m_voucher 34 = .ok (.ifCond .ne 5, 3) := by decide +kernel
theorem d_m_voucher_37 : decode c_m_voucher 37 = .ok (.iconst 0, 1) := by decide +kernel
theorem d_m_voucher_38 : decode c_m_voucher 38 = .ok (.ireturn, 1) := by decide +kernel
theorem d_m_voucher_39 : decode c_m_voucher 39 = .ok (.aload_n 0, 1) := by decide +kernel
theorem d_m_voucher_40 : decode c_m_voucher 40 = .ok (.dup, 1) := by decide +kernel
theorem d_m_voucher_41 : decode c_m_voucher 41 = .ok (.getfield 139, 3) := by decide +kernel
theorem d_m_voucher_44 : decode c_m_voucher 44 = .ok (.iconst 1, 1) := by decide +kernel
theorem d_m_voucher_45 : decode c_m_voucher 45 = .ok (.iadd, 1) := by decide +kernel
theorem d_m_voucher_46 : decode c_m_voucher 46 = .ok (.putfield 139, 3) := by decide +kernel
theorem d_m_voucher_49 : decode c_m_voucher 49 = .ok (.aload_n 0, 1) := by decide +kernel
theorem d_m_voucher_50 : decode c_m_voucher 50 = .ok (.getfield 28, 3) := by decide +kernel
theorem d_m_voucher_53 : decode c_m_voucher 53 = .ok (.aload_n 0, 1) := by decide +kernel
theorem d_m_voucher_54 : decode c_m_voucher 54 = .ok (.getfield 94, 3) := by decide +kernel
theorem d_m_voucher_57 : decode c_m_voucher 57 = .ok (.aload_n 0, 1) := by decide +kernel
theorem d_m_voucher_58 : decode c_m_voucher 58 = .ok (.getfield 139, 3) := by decide +kernel
theorem d_m_voucher_61 : decode c_m_voucher 61 = .ok (.iastore, 1) := by decide +kernel
theorem d_m_voucher_62 : decode c_m_voucher 62 = .ok (.aload_n 0, 1) := by decide +kernel
theorem d_m_voucher_63 : decode c_m_voucher 63 = .ok (.getfield 31, 3) := by decide +kernel
theorem d_m_voucher_66 : decode c_m_voucher 66 = .ok (.aload_n 0, 1) := by decide +kernel
theorem d_m_voucher_67 : decode c_m_voucher 67 = .ok (.getfield 94, 3) := by decide +kernel
theorem d_m_voucher_70 : decode c_m_voucher 70 = .ok (.aload_n 0, 1) := by decide +kernel
theorem d_m_voucher_71 : decode c_m_voucher 71 = .ok (.getfield 110, 3) := by decide +kernel
theorem d_m_voucher_74 : decode c_m_voucher 74 = .ok (.iastore, 1) := by decide +kernel
theorem d_m_voucher_75 : decode c_m_voucher 75 = .ok (.aload_n 0, 1) := by decide +kernel
theorem d_m_voucher_76 : decode c_m_voucher 76 = .ok (.getfield 34, 3) := by decide +kernel
theorem d_m_voucher_79 : decode c_m_voucher 79 = .ok (.aload_n 0, 1) := by decide +kernel
theorem d_m_voucher_80 : decode c_m_voucher 80 = .ok (.getfield 94, 3) := by decide +kernel
theorem d_m_voucher_83 : decode c_m_voucher 83 = .ok (.iconst 0, 1) := by decide +kernel
theorem d_m_voucher_84 : decode c_m_voucher 84 = .ok (.bastore, 1) := by decide +kernel
theorem d_m_voucher_85 : decode c_m_voucher 85 = .ok (.aload_n 0, 1) := by decide +kernel
theorem d_m_voucher_86 : decode c_m_voucher 86 = .ok (.dup, 1) := by decide +kernel
theorem d_m_voucher_87 : decode c_m_voucher 87 = .ok (.getfield 94, 3) := by decide +kernel
theorem d_m_voucher_90 : decode c_m_voucher 90 = .ok (.iconst 1, 1) := by decide +kernel
theorem d_m_voucher_91 : decode c_m_voucher 91 = .ok (.iadd, 1) := by decide +kernel
theorem d_m_voucher_92 : decode c_m_voucher 92 = .ok (.putfield 94, 3) := by decide +kernel
theorem d_m_voucher_95 : decode c_m_voucher 95 = .ok (.aload_n 0, 1) := by decide +kernel
theorem d_m_voucher_96 : decode c_m_voucher 96 = .ok (.dup, 1) := by decide +kernel
theorem d_m_voucher_97 : decode c_m_voucher 97 = .ok (.getfield 142, 3) := by decide +kernel
theorem d_m_voucher_100 : decode c_m_voucher 100 = .ok (.aload_n 0, 1) := by decide +kernel
theorem d_m_voucher_101 : decode c_m_voucher 101 = .ok (.getfield 110, 3) := by decide +kernel
theorem d_m_voucher_104 : decode c_m_voucher 104 = .ok (.iadd, 1) := by decide +kernel
theorem d_m_voucher_105 : decode c_m_voucher 105 = .ok (.putfield 142, 3) := by decide +kernel
theorem d_m_voucher_108 : decode c_m_voucher 108 = .ok (.aload_n 0, 1) := by decide +kernel
theorem d_m_voucher_109 : decode c_m_voucher 109 = .ok (.iconst 0, 1) := by decide +kernel
theorem d_m_voucher_110 : decode c_m_voucher 110 = .ok (.putfield 110, 3) := by decide +kernel
theorem d_m_voucher_113 : decode c_m_voucher 113 = .ok (.aload_n 0, 1) := by decide +kernel
theorem d_m_voucher_114 : decode c_m_voucher 114 = .ok (.getfield 139, 3) := by decide +kernel
theorem d_m_voucher_117 : decode c_m_voucher 117 = .ok (.ireturn, 1) := by decide +kernel
theorem d_m_give_0 : decode c_m_give 0 = .ok (.aload_n 0, 1) := by decide +kernel
theorem d_m_give_1 : decode c_m_give 1 = .ok (.aload_n 0, 1) := by decide +kernel
theorem d_m_give_2 : decode c_m_give 2 = .ok (.getfield 55, 3) := by decide +kernel
theorem d_m_give_5 : decode c_m_give 5 = .ok (.iconst 1, 1) := by decide +kernel
theorem d_m_give_6 : decode c_m_give 6 = .ok (.invokevirtual 59, 3) := by decide +kernel
theorem d_m_give_9 : decode c_m_give 9 = .ok (.ifCond .eq 5, 3) := by decide +kernel
theorem d_m_give_12 : decode c_m_give 12 = .ok (.iconst 0, 1) := by decide +kernel
theorem d_m_give_13 : decode c_m_give 13 = .ok (.ireturn, 1) := by decide +kernel
theorem d_m_give_14 : decode c_m_give 14 = .ok (.aload_n 0, 1) := by decide +kernel
theorem d_m_give_15 : decode c_m_give 15 = .ok (.getfield 110, 3) := by decide +kernel
theorem d_m_give_18 : decode c_m_give 18 = .ok (.ifCond .eq 10, 3) := by decide +kernel
theorem d_m_give_21 : decode c_m_give 21 = .ok (.aload_n 0, 1) := by decide +kernel
theorem d_m_give_22 : decode c_m_give 22 = .ok (.invokevirtual 107, 3) := by decide +kernel
theorem d_m_give_25 : decode c_m_give 25 = .ok (.ifCond .ne 5, 3) := by decide +kernel
theorem d_m_give_28 : decode c_m_give 28 = .ok (.iconst 0, 1) := by decide +kernel
theorem d_m_give_29 : decode c_m_give 29 = .ok (.ireturn, 1) := by decide +kernel
theorem d_m_give_30 : decode c_m_give 30 = .ok (.aload_n 0, 1) := by decide +kernel
theorem d_m_give_31 : decode c_m_give 31 = .ok (.getfield 110, 3) := by decide +kernel
theorem d_m_give_34 : decode c_m_give 34 = .ok (.istore_n 1, 1) := by decide +kernel
theorem d_m_give_35 : decode c_m_give 35 = .ok (.aload_n 0, 1) := by decide +kernel
theorem d_m_give_36 : decode c_m_give 36 = .ok (.dup, 1) := by decide +kernel
theorem d_m_give_37 : decode c_m_give 37 = .ok (.getfield 145, 3) := by decide +kernel
theorem d_m_give_40 : decode c_m_give 40 = .ok (.iload_n 1, 1) := by decide +kernel
theorem d_m_give_41 : decode c_m_give 41 = .ok (.iadd, 1) := by decide +kernel
theorem d_m_give_42 : decode c_m_give 42 = .ok (.putfield 145, 3) := by decide +kernel
theorem d_m_give_45 : decode c_m_give 45 = .ok (.aload_n 0, 1) := by decide +kernel
theorem d_m_give_46 : decode c_m_give 46 = .ok (.iconst 0, 1) := by decide +kernel
theorem d_m_give_47 : decode c_m_give 47 = .ok (.putfield 110, 3) := by decide +kernel
theorem d_m_give_50 : decode c_m_give 50 = .ok (.iload_n 1, 1) := by decide +kernel
theorem d_m_give_51 : decode c_m_give 51 = .ok (.ireturn, 1) := by decide +kernel
theorem d_m_voucherAt_0 : decode c_m_voucherAt 0 = .ok (.iconst 0, 1) := by decide +kernel
theorem d_m_voucherAt_1 : decode c_m_voucherAt 1 = .ok (.istore_n 2, 1) := by decide +kernel
theorem d_m_voucherAt_2 : decode c_m_voucherAt 2 = .ok (.iload_n 2, 1) := by decide +kernel
theorem d_m_voucherAt_3 : decode c_m_voucherAt 3 = .ok (.aload_n 0, 1) := by decide +kernel
theorem d_m_voucherAt_4 : decode c_m_voucherAt 4 = .ok (.getfield 94, 3) := by decide +kernel
theorem d_m_voucherAt_7 : decode c_m_voucherAt 7 = .ok (.if_icmp .ge 21, 3) := by decide +kernel
theorem d_m_voucherAt_10 : decode c_m_voucherAt 10 = .ok (.aload_n 0, 1) := by decide +kernel
theorem d_m_voucherAt_11 : decode c_m_voucherAt 11 = .ok (.getfield 28, 3) := by decide +kernel
theorem d_m_voucherAt_14 : decode c_m_voucherAt 14 = .ok (.iload_n 2, 1) := by decide +kernel
theorem d_m_voucherAt_15 : decode c_m_voucherAt 15 = .ok (.iaload, 1) := by decide +kernel
theorem d_m_voucherAt_16 : decode c_m_voucherAt 16 = .ok (.iload_n 1, 1) := by decide +kernel
theorem d_m_voucherAt_17 : decode c_m_voucherAt 17 = .ok (.if_icmp .ne 5, 3) := by decide +kernel
theorem d_m_voucherAt_20 : decode c_m_voucherAt 20 = .ok (.iload_n 2, 1) := by decide +kernel
theorem d_m_voucherAt_21 : decode c_m_voucherAt 21 = .ok (.ireturn, 1) := by decide +kernel
theorem d_m_voucherAt_22 : decode c_m_voucherAt 22 = .ok (.iinc 2 1, 3) := by decide +kernel
theorem d_m_voucherAt_25 : decode c_m_voucherAt 25 = .ok (.goto (-23), 3) := by decide +kernel
theorem d_m_voucherAt_28 : decode c_m_voucherAt 28 = .ok (.iconst (-1), 1) := by decide +kernel
theorem d_m_voucherAt_29 : decode c_m_voucherAt 29 = .ok (.ireturn, 1) := by decide +kernel
theorem d_m_redeem_0 : decode c_m_redeem 0 = .ok (.aload_n 0, 1) := by decide +kernel
theorem d_m_redeem_1 : decode c_m_redeem 1 = .ok (.iload_n 1, 1) := by decide +kernel
theorem d_m_redeem_2 : decode c_m_redeem 2 = .ok (.invokevirtual 148, 3) := by decide +kernel
theorem d_m_redeem_5 : decode c_m_redeem 5 = .ok (.istore_n 2, 1) := by decide +kernel
theorem d_m_redeem_6 : decode c_m_redeem 6 = .ok (.aload_n 0, 1) := by decide +kernel
theorem d_m_redeem_7 : decode c_m_redeem 7 = .ok (.aload_n 0, 1) := by decide +kernel
theorem d_m_redeem_8 : decode c_m_redeem 8 = .ok (.getfield 55, 3) := by decide +kernel
theorem d_m_redeem_11 : decode c_m_redeem 11 = .ok (.iconst 1, 1) := by decide +kernel
theorem d_m_redeem_12 : decode c_m_redeem 12 = .ok (.invokevirtual 59, 3) := by decide +kernel
theorem d_m_redeem_15 : decode c_m_redeem 15 = .ok (.ifCond .ne 30, 3) := by decide +kernel
theorem d_m_redeem_18 : decode c_m_redeem 18 = .ok (.aload_n 0, 1) := by decide +kernel
theorem d_m_redeem_19 : decode c_m_redeem 19 = .ok (.iload_n 2, 1) := by decide +kernel
theorem d_m_redeem_20 : decode c_m_redeem 20 = .ok (.iconst (-1), 1) := by decide +kernel
theorem d_m_redeem_21 : decode c_m_redeem 21 = .ok (.if_icmp .ne 7, 3) := by decide +kernel
theorem d_m_redeem_24 : decode c_m_redeem 24 = .ok (.iconst 1, 1) := by decide +kernel
theorem d_m_redeem_25 : decode c_m_redeem 25 = .ok (.goto 4, 3) := by decide +kernel
theorem d_m_redeem_28 : decode c_m_redeem 28 = .ok (.iconst 0, 1) := by decide +kernel
theorem d_m_redeem_29 : decode c_m_redeem 29 = .ok (.iconst 2, 1) := by decide +kernel
theorem d_m_redeem_30 : decode c_m_redeem 30 = .ok (.invokevirtual 59, 3) := by decide +kernel
theorem d_m_redeem_33 : decode c_m_redeem 33 = .ok (.ifCond .ne 12, 3) := by decide +kernel
theorem d_m_redeem_36 : decode c_m_redeem 36 = .ok (.aload_n 0, 1) := by decide +kernel
theorem d_m_redeem_37 : decode c_m_redeem 37 = .ok (.getfield 34, 3) := by decide +kernel
theorem d_m_redeem_40 : decode c_m_redeem 40 = .ok (.iload_n 2, 1) := by decide +kernel
theorem d_m_redeem_41 : decode c_m_redeem 41 = .ok (.baload, 1) := by decide +kernel
theorem d_m_redeem_42 : decode c_m_redeem 42 = .ok (.ifCond .eq 5, 3) := by decide +kernel
theorem d_m_redeem_45 : decode c_m_redeem 45 = .ok (.iconst 0, 1) := by decide +kernel
theorem d_m_redeem_46 : decode c_m_redeem 46 = .ok (.ireturn, 1) := by decide +kernel
theorem d_m_redeem_47 : decode c_m_redeem 47 = .ok (.aload_n 0, 1) := by decide +kernel
theorem d_m_redeem_48 : decode c_m_redeem 48 = .ok (.getfield 34, 3) := by decide +kernel
theorem d_m_redeem_51 : decode c_m_redeem 51 = .ok (.iload_n 2, 1) := by decide +kernel
theorem d_m_redeem_52 : decode c_m_redeem 52 = .ok (.iconst 1, 1) := by decide +kernel
theorem d_m_redeem_53 : decode c_m_redeem 53 = .ok (.bastore, 1) := by decide +kernel
theorem d_m_redeem_54 : decode c_m_redeem 54 = .ok (.aload_n 0, 1) := by decide +kernel
theorem d_m_redeem_55 : decode c_m_redeem 55 = .ok (.getfield 31, 3) := by decide +kernel
theorem d_m_redeem_58 : decode c_m_redeem 58 = .ok (.iload_n 2, 1) := by decide +kernel
theorem d_m_redeem_59 : decode c_m_redeem 59 = .ok (.iaload, 1) := by decide +kernel
theorem d_m_redeem_60 : decode c_m_redeem 60 = .ok (.ireturn, 1) := by decide +kernel
theorem d_m_clear_0 : decode c_m_clear 0 = .ok (.aload_n 0, 1) := by decide +kernel
theorem d_m_clear_1 : decode c_m_clear 1 = .ok (.aload_n 0, 1) := by decide +kernel
theorem d_m_clear_2 : decode c_m_clear 2 = .ok (.getfield 55, 3) := by decide +kernel
theorem d_m_clear_5 : decode c_m_clear 5 = .ok (.iconst 1, 1) := by decide +kernel
theorem d_m_clear_6 : decode c_m_clear 6 = .ok (.invokevirtual 59, 3) := by decide +kernel
theorem d_m_clear_9 : decode c_m_clear 9 = .ok (.ifCond .eq 5, 3) := by decide +kernel
theorem d_m_clear_12 : decode c_m_clear 12 = .ok (.iconst 0, 1) := by decide +kernel
theorem d_m_clear_13 : decode c_m_clear 13 = .ok (.ireturn, 1) := by decide +kernel
theorem d_m_clear_14 : decode c_m_clear 14 = .ok (.iconst 0, 1) := by decide +kernel
theorem d_m_clear_15 : decode c_m_clear 15 = .ok (.istore_n 1, 1) := by decide +kernel
theorem d_m_clear_16 : decode c_m_clear 16 = .ok (.iconst 0, 1) := by decide +kernel
theorem d_m_clear_17 : decode c_m_clear 17 = .ok (.istore_n 2, 1) := by decide +kernel
theorem d_m_clear_18 : decode c_m_clear 18 = .ok (.iload_n 2, 1) := by decide +kernel
theorem d_m_clear_19 : decode c_m_clear 19 = .ok (.aload_n 0, 1) := by decide +kernel
theorem d_m_clear_20 : decode c_m_clear 20 = .ok (.getfield 94, 3) := by decide +kernel
theorem d_m_clear_23 : decode c_m_clear 23 = .ok (.if_icmp .ge 55, 3) := by decide +kernel
theorem d_m_clear_26 : decode c_m_clear 26 = .ok (.aload_n 0, 1) := by decide +kernel
theorem d_m_clear_27 : decode c_m_clear 27 = .ok (.getfield 34, 3) := by decide +kernel
theorem d_m_clear_30 : decode c_m_clear 30 = .ok (.iload_n 2, 1) := by decide +kernel
theorem d_m_clear_31 : decode c_m_clear 31 = .ok (.baload, 1) := by decide +kernel
theorem d_m_clear_32 : decode c_m_clear 32 = .ok (.ifCond .eq 6, 3) := by decide +kernel
theorem d_m_clear_35 : decode c_m_clear 35 = .ok (.goto 37, 3) := by decide +kernel
theorem d_m_clear_38 : decode c_m_clear 38 = .ok (.aload_n 0, 1) := by decide +kernel
theorem d_m_clear_39 : decode c_m_clear 39 = .ok (.getfield 28, 3) := by decide +kernel
theorem d_m_clear_42 : decode c_m_clear 42 = .ok (.iload_n 1, 1) := by decide +kernel
theorem d_m_clear_43 : decode c_m_clear 43 = .ok (.aload_n 0, 1) := by decide +kernel
theorem d_m_clear_44 : decode c_m_clear 44 = .ok (.getfield 28, 3) := by decide +kernel
theorem d_m_clear_47 : decode c_m_clear 47 = .ok (.iload_n 2, 1) := by decide +kernel
theorem d_m_clear_48 : decode c_m_clear 48 = .ok (.iaload, 1) := by decide +kernel
theorem d_m_clear_49 : decode c_m_clear 49 = .ok (.iastore, 1) := by decide +kernel
theorem d_m_clear_50 : decode c_m_clear 50 = .ok (.aload_n 0, 1) := by decide +kernel
theorem d_m_clear_51 : decode c_m_clear 51 = .ok (.getfield 31, 3) := by decide +kernel
theorem d_m_clear_54 : decode c_m_clear 54 = .ok (.iload_n 1, 1) := by decide +kernel
theorem d_m_clear_55 : decode c_m_clear 55 = .ok (.aload_n 0, 1) := by decide +kernel
theorem d_m_clear_56 : decode c_m_clear 56 = .ok (.getfield 31, 3) := by decide +kernel
theorem d_m_clear_59 : decode c_m_clear 59 = .ok (.iload_n 2, 1) := by decide +kernel
theorem d_m_clear_60 : decode c_m_clear 60 = .ok (.iaload, 1) := by decide +kernel
theorem d_m_clear_61 : decode c_m_clear 61 = .ok (.iastore, 1) := by decide +kernel
theorem d_m_clear_62 : decode c_m_clear 62 = .ok (.aload_n 0, 1) := by decide +kernel
theorem d_m_clear_63 : decode c_m_clear 63 = .ok (.getfield 34, 3) := by decide +kernel
theorem d_m_clear_66 : decode c_m_clear 66 = .ok (.iload_n 1, 1) := by decide +kernel
theorem d_m_clear_67 : decode c_m_clear 67 = .ok (.iconst 0, 1) := by decide +kernel
theorem d_m_clear_68 : decode c_m_clear 68 = .ok (.bastore, 1) := by decide +kernel
theorem d_m_clear_69 : decode c_m_clear 69 = .ok (.iinc 1 1, 3) := by decide +kernel
theorem d_m_clear_72 : decode c_m_clear 72 = .ok (.iinc 2 1, 3) := by decide +kernel
theorem d_m_clear_75 : decode c_m_clear 75 = .ok (.goto (-57), 3) := by decide +kernel
theorem d_m_clear_78 : decode c_m_clear 78 = .ok (.aload_n 0, 1) := by decide +kernel
theorem d_m_clear_79 : decode c_m_clear 79 = .ok (.getfield 94, 3) := by decide +kernel
theorem d_m_clear_82 : decode c_m_clear 82 = .ok (.iload_n 1, 1) := by decide +kernel
theorem d_m_clear_83 : decode c_m_clear 83 = .ok (.isub, 1) := by decide +kernel
theorem d_m_clear_84 : decode c_m_clear 84 = .ok (.istore_n 2, 1) := by decide +kernel
theorem d_m_clear_85 : decode c_m_clear 85 = .ok (.aload_n 0, 1) := by decide +kernel
theorem d_m_clear_86 : decode c_m_clear 86 = .ok (.iload_n 1, 1) := by decide +kernel
theorem d_m_clear_87 : decode c_m_clear 87 = .ok (.putfield 94, 3) := by decide +kernel
theorem d_m_clear_90 : decode c_m_clear 90 = .ok (.iload_n 2, 1) := by decide +kernel
theorem d_m_clear_91 : decode c_m_clear 91 = .ok (.ireturn, 1) := by decide +kernel
theorem d_m_empty_0 : decode c_m_empty 0 = .ok (.aload_n 0, 1) := by decide +kernel
theorem d_m_empty_1 : decode c_m_empty 1 = .ok (.aload_n 0, 1) := by decide +kernel
theorem d_m_empty_2 : decode c_m_empty 2 = .ok (.getfield 55, 3) := by decide +kernel
theorem d_m_empty_5 : decode c_m_empty 5 = .ok (.iconst 1, 1) := by decide +kernel
theorem d_m_empty_6 : decode c_m_empty 6 = .ok (.invokevirtual 59, 3) := by decide +kernel
theorem d_m_empty_9 : decode c_m_empty 9 = .ok (.ifCond .ne 36, 3) := by decide +kernel
theorem d_m_empty_12 : decode c_m_empty 12 = .ok (.aload_n 0, 1) := by decide +kernel
theorem d_m_empty_13 : decode c_m_empty 13 = .ok (.iload_n 1, 1) := by decide +kernel
theorem d_m_empty_14 : decode c_m_empty 14 = .ok (.iconst 0, 1) := by decide +kernel
theorem d_m_empty_15 : decode c_m_empty 15 = .ok (.iconst 2, 1) := by decide +kernel
theorem d_m_empty_16 : decode c_m_empty 16 = .ok (.invokestatic 63, 3) := by decide +kernel
theorem d_m_empty_19 : decode c_m_empty 19 = .ok (.ifCond .eq 14, 3) := by decide +kernel
theorem d_m_empty_22 : decode c_m_empty 22 = .ok (.iload_n 2, 1) := by decide +kernel
theorem d_m_empty_23 : decode c_m_empty 23 = .ok (.iconst 0, 1) := by decide +kernel
theorem d_m_empty_24 : decode c_m_empty 24 = .ok (.sipush 200, 3) := by decide +kernel
theorem d_m_empty_27 : decode c_m_empty 27 = .ok (.invokestatic 63, 3) := by decide +kernel
theorem d_m_empty_30 : decode c_m_empty 30 = .ok (.ifCond .ne 7, 3) := by decide +kernel
theorem d_m_empty_33 : decode c_m_empty 33 = .ok (.iconst 1, 1) := by decide +kernel
theorem d_m_empty_34 : decode c_m_empty 34 = .ok (.goto 4, 3) := by decide +kernel
theorem d_m_empty_37 : decode c_m_empty 37 = .ok (.iconst 0, 1) := by decide +kernel
theorem d_m_empty_38 : decode c_m_empty 38 = .ok (.iconst 2, 1) := by decide +kernel
theorem d_m_empty_39 : decode c_m_empty 39 = .ok (.invokevirtual 59, 3) := by decide +kernel
theorem d_m_empty_42 : decode c_m_empty 42 = .ok (.ifCond .eq 5, 3) := by decide +kernel
theorem d_m_empty_45 : decode c_m_empty 45 = .ok (.iconst 0, 1) := by decide +kernel
theorem d_m_empty_46 : decode c_m_empty 46 = .ok (.ireturn, 1) := by decide +kernel
theorem d_m_empty_47 : decode c_m_empty 47 = .ok (.aload_n 0, 1) := by decide +kernel
theorem d_m_empty_48 : decode c_m_empty 48 = .ok (.getfield 22, 3) := by decide +kernel
theorem d_m_empty_51 : decode c_m_empty 51 = .ok (.iload_n 1, 1) := by decide +kernel
theorem d_m_empty_52 : decode c_m_empty 52 = .ok (.iaload, 1) := by decide +kernel
theorem d_m_empty_53 : decode c_m_empty 53 = .ok (.istore_n 3, 1) := by decide +kernel
theorem d_m_empty_54 : decode c_m_empty 54 = .ok (.aload_n 0, 1) := by decide +kernel
theorem d_m_empty_55 : decode c_m_empty 55 = .ok (.getfield 22, 3) := by decide +kernel
theorem d_m_empty_58 : decode c_m_empty 58 = .ok (.iload_n 1, 1) := by decide +kernel
theorem d_m_empty_59 : decode c_m_empty 59 = .ok (.iconst 0, 1) := by decide +kernel
theorem d_m_empty_60 : decode c_m_empty 60 = .ok (.iastore, 1) := by decide +kernel
theorem d_m_empty_61 : decode c_m_empty 61 = .ok (.aload_n 0, 1) := by decide +kernel
theorem d_m_empty_62 : decode c_m_empty 62 = .ok (.getfield 25, 3) := by decide +kernel
theorem d_m_empty_65 : decode c_m_empty 65 = .ok (.iload_n 1, 1) := by decide +kernel
theorem d_m_empty_66 : decode c_m_empty 66 = .ok (.iload_n 2, 1) := by decide +kernel
theorem d_m_empty_67 : decode c_m_empty 67 = .ok (.iastore, 1) := by decide +kernel
theorem d_m_empty_68 : decode c_m_empty 68 = .ok (.iload_n 3, 1) := by decide +kernel
theorem d_m_empty_69 : decode c_m_empty 69 = .ok (.ireturn, 1) := by decide +kernel
theorem d_m_service_0 : decode c_m_service 0 = .ok (.aload_n 0, 1) := by decide +kernel
theorem d_m_service_1 : decode c_m_service 1 = .ok (.aload_n 0, 1) := by decide +kernel
theorem d_m_service_2 : decode c_m_service 2 = .ok (.getfield 55, 3) := by decide +kernel
theorem d_m_service_5 : decode c_m_service 5 = .ok (.ifCond .ne 10, 3) := by decide +kernel
theorem d_m_service_8 : decode c_m_service 8 = .ok (.aload_n 0, 1) := by decide +kernel
theorem d_m_service_9 : decode c_m_service 9 = .ok (.getfield 52, 3) := by decide +kernel
theorem d_m_service_12 : decode c_m_service 12 = .ok (.ifCond .le 7, 3) := by decide +kernel
theorem d_m_service_15 : decode c_m_service 15 = .ok (.iconst 1, 1) := by decide +kernel
theorem d_m_service_16 : decode c_m_service 16 = .ok (.goto 4, 3) := by decide +kernel
theorem d_m_service_19 : decode c_m_service 19 = .ok (.iconst 0, 1) := by decide +kernel
theorem d_m_service_20 : decode c_m_service 20 = .ok (.iconst 1, 1) := by decide +kernel
theorem d_m_service_21 : decode c_m_service 21 = .ok (.invokevirtual 59, 3) := by decide +kernel
theorem d_m_service_24 : decode c_m_service 24 = .ok (.ifCond .eq 5, 3) := by decide +kernel
theorem d_m_service_27 : decode c_m_service 27 = .ok (.iconst 0, 1) := by decide +kernel
theorem d_m_service_28 : decode c_m_service 28 = .ok (.ireturn, 1) := by decide +kernel
theorem d_m_service_29 : decode c_m_service 29 = .ok (.aload_n 0, 1) := by decide +kernel
theorem d_m_service_30 : decode c_m_service 30 = .ok (.invokevirtual 97, 3) := by decide +kernel
theorem d_m_service_33 : decode c_m_service 33 = .ok (.istore_n 1, 1) := by decide +kernel
theorem d_m_service_34 : decode c_m_service 34 = .ok (.aload_n 0, 1) := by decide +kernel
theorem d_m_service_35 : decode c_m_service 35 = .ok (.iconst 0, 1) := by decide +kernel
theorem d_m_service_36 : decode c_m_service 36 = .ok (.putfield 91, 3) := by decide +kernel
theorem d_m_service_39 : decode c_m_service 39 = .ok (.iload_n 1, 1) := by decide +kernel
theorem d_m_service_40 : decode c_m_service 40 = .ok (.ireturn, 1) := by decide +kernel
theorem d_m_cut_0 : decode c_m_cut 0 = .ok (.aload_n 0, 1) := by decide +kernel
theorem d_m_cut_1 : decode c_m_cut 1 = .ok (.iload_n 1, 1) := by decide +kernel
theorem d_m_cut_2 : decode c_m_cut 2 = .ok (.iconst 0, 1) := by decide +kernel
theorem d_m_cut_3 : decode c_m_cut 3 = .ok (.sipush 1000, 3) := by decide +kernel
theorem d_m_cut_6 : decode c_m_cut 6 = .ok (.invokestatic 63, 3) := by decide +kernel
theorem d_m_cut_9 : decode c_m_cut 9 = .ok (.ifCond .ne 7, 3) := by decide +kernel
theorem d_m_cut_12 : decode c_m_cut 12 = .ok (.iconst 1, 1) := by decide +kernel
theorem d_m_cut_13 : decode c_m_cut 13 = .ok (.goto 4, 3) := by decide +kernel
theorem d_m_cut_16 : decode c_m_cut 16 = .ok (.iconst 0, 1) := by decide +kernel
theorem d_m_cut_17 : decode c_m_cut 17 = .ok (.iconst 1, 1) := by decide +kernel
theorem d_m_cut_18 : decode c_m_cut 18 = .ok (.invokevirtual 59, 3) := by decide +kernel
theorem d_m_cut_21 : decode c_m_cut 21 = .ok (.ifCond .eq 4, 3) := by decide +kernel
theorem d_m_cut_24 : decode c_m_cut 24 = .ok (.return_, 1) := by decide +kernel
theorem d_m_cut_25 : decode c_m_cut 25 = .ok (.aload_n 0, 1) := by decide +kernel
theorem d_m_cut_26 : decode c_m_cut 26 = .ok (.iload_n 1, 1) := by decide +kernel
theorem d_m_cut_27 : decode c_m_cut 27 = .ok (.putfield 85, 3) := by decide +kernel
theorem d_m_cut_30 : decode c_m_cut 30 = .ok (.return_, 1) := by decide +kernel
theorem d_m_power_0 : decode c_m_power 0 = .ok (.aload_n 0, 1) := by decide +kernel
theorem d_m_power_1 : decode c_m_power 1 = .ok (.iconst 0, 1) := by decide +kernel
theorem d_m_power_2 : decode c_m_power 2 = .ok (.putfield 44, 3) := by decide +kernel
theorem d_m_power_5 : decode c_m_power 5 = .ok (.aload_n 0, 1) := by decide +kernel
theorem d_m_power_6 : decode c_m_power 6 = .ok (.getfield 55, 3) := by decide +kernel
theorem d_m_power_9 : decode c_m_power 9 = .ok (.ifCond .ne 5, 3) := by decide +kernel
theorem d_m_power_12 : decode c_m_power 12 = .ok (.iconst (-1), 1) := by decide +kernel
theorem d_m_power_13 : decode c_m_power 13 = .ok (.ireturn, 1) := by decide +kernel
theorem d_m_power_14 : decode c_m_power 14 = .ok (.aload_n 0, 1) := by decide +kernel
theorem d_m_power_15 : decode c_m_power 15 = .ok (.iconst 0, 1) := by decide +kernel
theorem d_m_power_16 : decode c_m_power 16 = .ok (.putfield 55, 3) := by decide +kernel
theorem d_m_power_19 : decode c_m_power 19 = .ok (.aload_n 0, 1) := by decide +kernel
theorem d_m_power_20 : decode c_m_power 20 = .ok (.getfield 88, 3) := by decide +kernel
theorem d_m_power_23 : decode c_m_power 23 = .ok (.istore_n 1, 1) := by decide +kernel
theorem d_m_power_24 : decode c_m_power 24 = .ok (.iconst 0, 1) := by decide +kernel
theorem d_m_power_25 : decode c_m_power 25 = .ok (.istore_n 2, 1) := by decide +kernel
theorem d_m_power_26 : decode c_m_power 26 = .ok (.iload_n 2, 1) := by decide +kernel
theorem d_m_power_27 : decode c_m_power 27 = .ok (.aload_n 0, 1) := by decide +kernel
theorem d_m_power_28 : decode c_m_power 28 = .ok (.getfield 52, 3) := by decide +kernel
theorem d_m_power_31 : decode c_m_power 31 = .ok (.if_icmp .ge 25, 3) := by decide +kernel
theorem d_m_power_34 : decode c_m_power 34 = .ok (.aload_n 0, 1) := by decide +kernel
theorem d_m_power_35 : decode c_m_power 35 = .ok (.iload_n 2, 1) := by decide +kernel
theorem d_m_power_36 : decode c_m_power 36 = .ok (.iconst 2, 1) := by decide +kernel
theorem d_m_power_37 : decode c_m_power 37 = .ok (.invokevirtual 48, 3) := by decide +kernel
theorem d_m_power_40 : decode c_m_power 40 = .ok (.bipush 105, 2) := by decide +kernel
theorem d_m_power_42 : decode c_m_power 42 = .ok (.if_icmp .ge 8, 3) := by decide +kernel
theorem d_m_power_45 : decode c_m_power 45 = .ok (.aload_n 0, 1) := by decide +kernel
theorem d_m_power_46 : decode c_m_power 46 = .ok (.iload_n 2, 1) := by decide +kernel
theorem d_m_power_47 : decode c_m_power 47 = .ok (.invokevirtual 136, 3) := by decide +kernel
theorem d_m_power_50 : decode c_m_power 50 = .ok (.iinc 2 1, 3) := by decide +kernel
theorem d_m_power_53 : decode c_m_power 53 = .ok (.goto (-27), 3) := by decide +kernel
theorem d_m_power_56 : decode c_m_power 56 = .ok (.iconst 0, 1) := by decide +kernel
theorem d_m_power_57 : decode c_m_power 57 = .ok (.istore_n 2, 1) := by decide +kernel
theorem d_m_power_58 : decode c_m_power 58 = .ok (.iload_n 2, 1) := by decide +kernel
theorem d_m_power_59 : decode c_m_power 59 = .ok (.aload_n 0, 1) := by decide +kernel
theorem d_m_power_60 : decode c_m_power 60 = .ok (.getfield 52, 3) := by decide +kernel
theorem d_m_power_63 : decode c_m_power 63 = .ok (.if_icmp .ge 41, 3) := by decide +kernel
theorem d_m_power_66 : decode c_m_power 66 = .ok (.aload_n 0, 1) := by decide +kernel
theorem d_m_power_67 : decode c_m_power 67 = .ok (.getfield 55, 3) := by decide +kernel
theorem d_m_power_70 : decode c_m_power 70 = .ok (.ifCond .ne 34, 3) := by decide +kernel
theorem d_m_power_73 : decode c_m_power 73 = .ok (.aload_n 0, 1) := by decide +kernel
theorem d_m_power_74 : decode c_m_power 74 = .ok (.iload_n 2, 1) := by decide +kernel
theorem d_m_power_75 : decode c_m_power 75 = .ok (.iconst 2, 1) := by decide +kernel
theorem d_m_power_76 : decode c_m_power 76 = .ok (.invokevirtual 48, 3) := by decide +kernel
theorem d_m_power_79 : decode c_m_power 79 = .ok (.bipush 105, 2) := by decide +kernel
theorem d_m_power_81 : decode c_m_power 81 = .ok (.if_icmp .lt 17, 3) := by decide +kernel
theorem d_m_power_84 : decode c_m_power 84 = .ok (.aload_n 0, 1) := by decide +kernel
theorem d_m_power_85 : decode c_m_power 85 = .ok (.iload_n 2, 1) := by decide +kernel
theorem d_m_power_86 : decode c_m_power 86 = .ok (.iconst 5, 1) := by decide +kernel
theorem d_m_power_87 : decode c_m_power 87 = .ok (.invokevirtual 48, 3) := by decide +kernel
theorem d_m_power_90 : decode c_m_power 90 = .ok (.ifCond .ne 8, 3) := by decide +kernel
theorem d_m_power_93 : decode c_m_power 93 = .ok (.aload_n 0, 1) := by decide +kernel
theorem d_m_power_94 : decode c_m_power 94 = .ok (.iload_n 2, 1) := by decide +kernel
theorem d_m_power_95 : decode c_m_power 95 = .ok (.invokevirtual 129, 3) := by decide +kernel
theorem d_m_power_98 : decode c_m_power 98 = .ok (.iinc 2 1, 3) := by decide +kernel
theorem d_m_power_101 : decode c_m_power 101 = .ok (.goto (-43), 3) := by decide +kernel
theorem d_m_power_104 : decode c_m_power 104 = .ok (.iconst 0, 1) := by decide +kernel
theorem d_m_power_105 : decode c_m_power 105 = .ok (.istore_n 2, 1) := by decide +kernel
theorem d_m_power_106 : decode c_m_power 106 = .ok (.iload_n 2, 1) := by decide +kernel
theorem d_m_power_107 : decode c_m_power 107 = .ok (.aload_n 0, 1) := by decide +kernel
theorem d_m_power_108 : decode c_m_power 108 = .ok (.getfield 52, 3) := by decide +kernel
theorem d_m_power_111 : decode c_m_power 111 = .ok (.if_icmp .ge 49, 3) := by decide +kernel
theorem d_m_power_114 : decode c_m_power 114 = .ok (.aload_n 0, 1) := by decide +kernel
theorem d_m_power_115 : decode c_m_power 115 = .ok (.getfield 55, 3) := by decide +kernel
theorem d_m_power_118 : decode c_m_power 118 = .ok (.ifCond .ne 42, 3) := by decide +kernel
theorem d_m_power_121 : decode c_m_power 121 = .ok (.aload_n 0, 1) := by decide +kernel
theorem d_m_power_122 : decode c_m_power 122 = .ok (.iload_n 2, 1) := by decide +kernel
theorem d_m_power_123 : decode c_m_power 123 = .ok (.invokevirtual 72, 3) := by decide +kernel
theorem d_m_power_126 : decode c_m_power 126 = .ok (.bipush 110, 2) := by decide +kernel
theorem d_m_power_128 : decode c_m_power 128 = .ok (.if_icmp .lt 15, 3) := by decide +kernel
theorem d_m_power_131 : decode c_m_power 131 = .ok (.aload_n 0, 1) := by decide +kernel
theorem d_m_power_132 : decode c_m_power 132 = .ok (.iload_n 2, 1) := by decide +kernel
theorem d_m_power_133 : decode c_m_power 133 = .ok (.invokevirtual 132, 3) := by decide +kernel
theorem d_m_power_136 : decode c_m_power 136 = .ok (.ifCond .eq 7, 3) := by decide +kernel
theorem d_m_power_139 : decode c_m_power 139 = .ok (.iconst 1, 1) := by decide +kernel
theorem d_m_power_140 : decode c_m_power 140 = .ok (.goto 4, 3) := by decide +kernel
theorem d_m_power_143 : decode c_m_power 143 = .ok (.iconst 0, 1) := by decide +kernel
theorem d_m_power_144 : decode c_m_power 144 = .ok (.istore_n 3, 1) := by decide +kernel
theorem d_m_power_145 : decode c_m_power 145 = .ok (.iload_n 2, 1) := by decide +kernel
theorem d_m_power_146 : decode c_m_power 146 = .ok (.iload_n 3, 1) := by decide +kernel
theorem d_m_power_147 : decode c_m_power 147 = .ok (.ifCond .eq 7, 3) := by decide +kernel
theorem d_m_power_150 : decode c_m_power 150 = .ok (.iconst 0, 1) := by decide +kernel
theorem d_m_power_151 : decode c_m_power 151 = .ok (.goto 4, 3) := by decide +kernel
theorem d_m_power_154 : decode c_m_power 154 = .ok (.iconst 1, 1) := by decide +kernel
theorem d_m_power_155 : decode c_m_power 155 = .ok (.iadd, 1) := by decide +kernel
theorem d_m_power_156 : decode c_m_power 156 = .ok (.istore_n 2, 1) := by decide +kernel
theorem d_m_power_157 : decode c_m_power 157 = .ok (.goto (-51), 3) := by decide +kernel
theorem d_m_power_160 : decode c_m_power 160 = .ok (.aload_n 0, 1) := by decide +kernel
theorem d_m_power_161 : decode c_m_power 161 = .ok (.getfield 88, 3) := by decide +kernel
theorem d_m_power_164 : decode c_m_power 164 = .ok (.iload_n 1, 1) := by decide +kernel
theorem d_m_power_165 : decode c_m_power 165 = .ok (.isub, 1) := by decide +kernel
theorem d_m_power_166 : decode c_m_power 166 = .ok (.ireturn, 1) := by decide +kernel
theorem d_m_rest_0 : decode c_m_rest 0 = .ok (.iload_n 2, 1) := by decide +kernel
theorem d_m_rest_1 : decode c_m_rest 1 = .ok (.istore_n 3, 1) := by decide +kernel
theorem d_m_rest_2 : decode c_m_rest 2 = .ok (.iconst 1, 1) := by decide +kernel
theorem d_m_rest_3 : decode c_m_rest 3 = .ok (.istore 4, 2) := by decide +kernel
theorem d_m_rest_5 : decode c_m_rest 5 = .ok (.iconst 1, 1) := by decide +kernel
theorem d_m_rest_6 : decode c_m_rest 6 = .ok (.istore 5, 2) := by decide +kernel
theorem d_m_rest_8 : decode c_m_rest 8 = .ok (.iload 5, 2) := by decide +kernel
theorem d_m_rest_10 : decode c_m_rest 10 = .ok (.iload_n 1, 1) := by decide +kernel
theorem d_m_rest_11 : decode c_m_rest 11 = .ok (.if_icmp .ge 16, 3) := by decide +kernel
theorem d_m_rest_14 : decode c_m_rest 14 = .ok (.bipush 10, 2) := by decide +kernel
theorem d_m_rest_16 : decode c_m_rest 16 = .ok (.iload 4, 2) := by decide +kernel
theorem d_m_rest_18 : decode c_m_rest 18 = .ok (.imul, 1) := by decide +kernel
theorem d_m_rest_19 : decode c_m_rest 19 = .ok (.istore 4, 2) := by decide +kernel
theorem d_m_rest_21 : decode c_m_rest 21 = .ok (.iinc 5 1, 3) := by decide +kernel
theorem d_m_rest_24 : decode c_m_rest 24 = .ok (.goto (-16), 3) := by decide +kernel
theorem d_m_rest_27 : decode c_m_rest 27 = .ok (.iload 4, 2) := by decide +kernel
theorem d_m_rest_29 : decode c_m_rest 29 = .ok (.ifCond .le 29, 3) := by decide +kernel
theorem d_m_rest_32 : decode c_m_rest 32 = .ok (.bipush 10, 2) := by decide +kernel
theorem d_m_rest_34 : decode c_m_rest 34 = .ok (.iload_n 3, 1) := by decide +kernel
theorem d_m_rest_35 : decode c_m_rest 35 = .ok (.imul, 1) := by decide +kernel
theorem d_m_rest_36 : decode c_m_rest 36 = .ok (.iload_n 0, 1) := by decide +kernel
theorem d_m_rest_37 : decode c_m_rest 37 = .ok (.iload 4, 2) := by decide +kernel
theorem d_m_rest_39 : decode c_m_rest 39 = .ok (.idiv, 1) := by decide +kernel
theorem d_m_rest_40 : decode c_m_rest 40 = .ok (.bipush 10, 2) := by decide +kernel
theorem d_m_rest_42 : decode c_m_rest 42 = .ok (.irem, 1) := by decide +kernel
theorem d_m_rest_43 : decode c_m_rest 43 = .ok (.iadd, 1) := by decide +kernel
theorem d_m_rest_44 : decode c_m_rest 44 = .ok (.bipush 97, 2) := by decide +kernel
theorem d_m_rest_46 : decode c_m_rest 46 = .ok (.irem, 1) := by decide +kernel
theorem d_m_rest_47 : decode c_m_rest 47 = .ok (.istore_n 3, 1) := by decide +kernel
theorem d_m_rest_48 : decode c_m_rest 48 = .ok (.iload 4, 2) := by decide +kernel
theorem d_m_rest_50 : decode c_m_rest 50 = .ok (.bipush 10, 2) := by decide +kernel
theorem d_m_rest_52 : decode c_m_rest 52 = .ok (.idiv, 1) := by decide +kernel
theorem d_m_rest_53 : decode c_m_rest 53 = .ok (.istore 4, 2) := by decide +kernel
theorem d_m_rest_55 : decode c_m_rest 55 = .ok (.goto (-28), 3) := by decide +kernel
theorem d_m_rest_58 : decode c_m_rest 58 = .ok (.iload_n 3, 1) := by decide +kernel
theorem d_m_rest_59 : decode c_m_rest 59 = .ok (.ireturn, 1) := by decide +kernel
theorem d_m_endOf_0 : decode c_m_endOf 0 = .ok (.bipush 98, 2) := by decide +kernel
theorem d_m_endOf_2 : decode c_m_endOf 2 = .ok (.sipush 3700, 3) := by decide +kernel
theorem d_m_endOf_5 : decode c_m_endOf 5 = .ok (.iconst 4, 1) := by decide +kernel
theorem d_m_endOf_6 : decode c_m_endOf 6 = .ok (.aload_n 0, 1) := by decide +kernel
theorem d_m_endOf_7 : decode c_m_endOf 7 = .ok (.getfield 31, 3) := by decide +kernel
theorem d_m_endOf_10 : decode c_m_endOf 10 = .ok (.iload_n 1, 1) := by decide +kernel
theorem d_m_endOf_11 : decode c_m_endOf 11 = .ok (.iaload, 1) := by decide +kernel
theorem d_m_endOf_12 : decode c_m_endOf 12 = .ok (.bipush 6, 2) := by decide +kernel
theorem d_m_endOf_14 : decode c_m_endOf 14 = .ok (.aload_n 0, 1) := by decide +kernel
theorem d_m_endOf_15 : decode c_m_endOf 15 = .ok (.getfield 28, 3) := by decide +kernel
theorem d_m_endOf_18 : decode c_m_endOf 18 = .ok (.iload_n 1, 1) := by decide +kernel
theorem d_m_endOf_19 : decode c_m_endOf 19 = .ok (.iaload, 1) := by decide +kernel
theorem d_m_endOf_20 : decode c_m_endOf 20 = .ok (.bipush 6, 2) := by decide +kernel
theorem d_m_endOf_22 : decode c_m_endOf 22 = .ok (.iconst 0, 1) := by decide +kernel
theorem d_m_endOf_23 : decode c_m_endOf 23 = .ok (.invokestatic 151, 3) := by decide +kernel
theorem d_m_endOf_26 : decode c_m_endOf 26 = .ok (.invokestatic 151, 3) := by decide +kernel
theorem d_m_endOf_29 : decode c_m_endOf 29 = .ok (.invokestatic 151, 3) := by decide +kernel
theorem d_m_endOf_32 : decode c_m_endOf 32 = .ok (.isub, 1) := by decide +kernel
theorem d_m_endOf_33 : decode c_m_endOf 33 = .ok (.ireturn, 1) := by decide +kernel
theorem d_m_check_0 : decode c_m_check 0 = .ok (.aload_n 0, 1) := by decide +kernel
theorem d_m_check_1 : decode c_m_check 1 = .ok (.iload_n 1, 1) := by decide +kernel
theorem d_m_check_2 : decode c_m_check 2 = .ok (.iconst 0, 1) := by decide +kernel
theorem d_m_check_3 : decode c_m_check 3 = .ok (.ldc 155, 2) := by decide +kernel
theorem d_m_check_5 : decode c_m_check 5 = .ok (.invokestatic 63, 3) := by decide +kernel
theorem d_m_check_8 : decode c_m_check 8 = .ok (.ifCond .eq 13, 3) := by decide +kernel
theorem d_m_check_11 : decode c_m_check 11 = .ok (.iload_n 2, 1) := by decide +kernel
theorem d_m_check_12 : decode c_m_check 12 = .ok (.iconst 0, 1) := by decide +kernel
theorem d_m_check_13 : decode c_m_check 13 = .ok (.ldc 155, 2) := by decide +kernel
theorem d_m_check_15 : decode c_m_check 15 = .ok (.invokestatic 63, 3) := by decide +kernel
theorem d_m_check_18 : decode c_m_check 18 = .ok (.ifCond .ne 7, 3) := by decide +kernel
theorem d_m_check_21 : decode c_m_check 21 = .ok (.iconst 1, 1) := by decide +kernel
theorem d_m_check_22 : decode c_m_check 22 = .ok (.goto 4, 3) := by decide +kernel
theorem d_m_check_25 : decode c_m_check 25 = .ok (.iconst 0, 1) := by decide +kernel
theorem d_m_check_26 : decode c_m_check 26 = .ok (.iconst 1, 1) := by decide +kernel
theorem d_m_check_27 : decode c_m_check 27 = .ok (.invokevirtual 59, 3) := by decide +kernel
theorem d_m_check_30 : decode c_m_check 30 = .ok (.ifCond .eq 5, 3) := by decide +kernel
theorem d_m_check_33 : decode c_m_check 33 = .ok (.iconst 0, 1) := by decide +kernel
theorem d_m_check_34 : decode c_m_check 34 = .ok (.ireturn, 1) := by decide +kernel
theorem d_m_check_35 : decode c_m_check 35 = .ok (.iload_n 2, 1) := by decide +kernel
theorem d_m_check_36 : decode c_m_check 36 = .ok (.bipush 100, 2) := by decide +kernel
theorem d_m_check_38 : decode c_m_check 38 = .ok (.idiv, 1) := by decide +kernel
theorem d_m_check_39 : decode c_m_check 39 = .ok (.bipush 100, 2) := by decide +kernel
theorem d_m_check_41 : decode c_m_check 41 = .ok (.irem, 1) := by decide +kernel
theorem d_m_check_42 : decode c_m_check 42 = .ok (.bipush 37, 2) := by decide +kernel
theorem d_m_check_44 : decode c_m_check 44 = .ok (.if_icmp .ne 24, 3) := by decide +kernel
theorem d_m_check_47 : decode c_m_check 47 = .ok (.iload_n 2, 1) := by decide +kernel
theorem d_m_check_48 : decode c_m_check 48 = .ok (.bipush 8, 2) := by decide +kernel
theorem d_m_check_50 : decode c_m_check 50 = .ok (.iload_n 1, 1) := by decide +kernel
theorem d_m_check_51 : decode c_m_check 51 = .ok (.bipush 8, 2) := by decide +kernel
theorem d_m_check_53 : decode c_m_check 53 = .ok (.iconst 0, 1) := by decide +kernel
theorem d_m_check_54 : decode c_m_check 54 = .ok (.invokestatic 151, 3) := by decide +kernel
theorem d_m_check_57 : decode c_m_check 57 = .ok (.invokestatic 151, 3) := by decide +kernel
theorem d_m_check_60 : decode c_m_check 60 = .ok (.iconst 1, 1) := by decide +kernel
theorem d_m_check_61 : decode c_m_check 61 = .ok (.if_icmp .ne 7, 3) := by decide +kernel
theorem d_m_check_64 : decode c_m_check 64 = .ok (.iconst 1, 1) := by decide +kernel
theorem d_m_check_65 : decode c_m_check 65 = .ok (.goto 4, 3) := by decide +kernel
theorem d_m_check_68 : decode c_m_check 68 = .ok (.iconst 0, 1) := by decide +kernel
theorem d_m_check_69 : decode c_m_check 69 = .ok (.ireturn, 1) := by decide +kernel
end
section
/-! decode rows -/
theorem d_m_about_0 : decode c_m_about 0 = .ok (.aload_n 0, 1) := by decide +kernel
theorem d_m_about_1 : decode c_m_about 1 = .ok (.iload_n 1, 1) := by decide +kernel
theorem d_m_about_2 : decode c_m_about 2 = .ok (.invokevirtual 148, 3) := by decide +kernel
theorem d_m_about_5 : decode c_m_about 5 = .ok (.istore_n 3, 1) := by decide +kernel
theorem d_m_about_6 : decode c_m_about 6 = .ok (.aload_n 0, 1) := by decide +kernel
theorem d_m_about_7 : decode c_m_about 7 = .ok (.iload_n 3, 1) := by decide +kernel
theorem d_m_about_8 : decode c_m_about 8 = .ok (.iconst (-1), 1) := by decide +kernel
theorem d_m_about_9 : decode c_m_about 9 = .ok (.if_icmp .eq 12, 3) := by decide +kernel
theorem d_m_about_12 : decode c_m_about 12 = .ok (.iload_n 2, 1) := by decide +kernel
theorem d_m_about_13 : decode c_m_about 13 = .ok (.iconst 0, 1) := by decide +kernel
theorem d_m_about_14 : decode c_m_about 14 = .ok (.iconst 3, 1) := by decide +kernel
theorem d_m_about_15 : decode c_m_about 15 = .ok (.invokestatic 63, 3) := by decide +kernel
theorem d_m_about_18 : decode c_m_about 18 = .ok (.ifCond .ne 7, 3) := by decide +kernel
theorem d_m_about_21 : decode c_m_about 21 = .ok (.iconst 1, 1) := by decide +kernel
theorem d_m_about_22 : decode c_m_about 22 = .ok (.goto 4, 3) := by decide +kernel
theorem d_m_about_25 : decode c_m_about 25 = .ok (.iconst 0, 1) := by decide +kernel
theorem d_m_about_26 : decode c_m_about 26 = .ok (.iconst 1, 1) := by decide +kernel
theorem d_m_about_27 : decode c_m_about 27 = .ok (.invokevirtual 59, 3) := by decide +kernel
theorem d_m_about_30 : decode c_m_about 30 = .ok (.ifCond .eq 5, 3) := by decide +kernel
theorem d_m_about_33 : decode c_m_about 33 = .ok (.iconst 0, 1) := by decide +kernel
theorem d_m_about_34 : decode c_m_about 34 = .ok (.ireturn, 1) := by decide +kernel
theorem d_m_about_35 : decode c_m_about 35 = .ok (.iload_n 2, 1) := by decide +kernel
theorem d_m_about_36 : decode c_m_about 36 = .ok (.tableswitch 81 0 2 #[28, 35, 56], 28) := by decide +kernel
theorem d_m_about_64 : decode c_m_about 64 = .ok (.aload_n 0, 1) := by decide +kernel
theorem d_m_about_65 : decode c_m_about 65 = .ok (.getfield 31, 3) := by decide +kernel
theorem d_m_about_68 : decode c_m_about 68 = .ok (.iload_n 3, 1) := by decide +kernel
theorem d_m_about_69 : decode c_m_about 69 = .ok (.iaload, 1) := by decide +kernel
theorem d_m_about_70 : decode c_m_about 70 = .ok (.ireturn, 1) := by decide +kernel
theorem d_m_about_71 : decode c_m_about 71 = .ok (.bipush 100, 2) := by decide +kernel
theorem d_m_about_73 : decode c_m_about 73 = .ok (.aload_n 0, 1) := by decide +kernel
theorem d_m_about_74 : decode c_m_about 74 = .ok (.getfield 28, 3) := by decide +kernel
theorem d_m_about_77 : decode c_m_about 77 = .ok (.iload_n 3, 1) := by decide +kernel
theorem d_m_about_78 : decode c_m_about 78 = .ok (.iaload, 1) := by decide +kernel
theorem d_m_about_79 : decode c_m_about 79 = .ok (.imul, 1) := by decide +kernel
theorem d_m_about_80 : decode c_m_about 80 = .ok (.aload_n 0, 1) := by decide +kernel
theorem d_m_about_81 : decode c_m_about 81 = .ok (.getfield 31, 3) := by decide +kernel
theorem d_m_about_84 : decode c_m_about 84 = .ok (.iload_n 3, 1) := by decide +kernel
theorem d_m_about_85 : decode c_m_about 85 = .ok (.iaload, 1) := by decide +kernel
theorem d_m_about_86 : decode c_m_about 86 = .ok (.sipush 10000, 3) := by decide +kernel
theorem d_m_about_89 : decode c_m_about 89 = .ok (.idiv, 1) := by decide +kernel
theorem d_m_about_90 : decode c_m_about 90 = .ok (.iadd, 1) := by decide +kernel
theorem d_m_about_91 : decode c_m_about 91 = .ok (.ireturn, 1) := by decide +kernel
theorem d_m_about_92 : decode c_m_about 92 = .ok (.aload_n 0, 1) := by decide +kernel
theorem d_m_about_93 : decode c_m_about 93 = .ok (.getfield 31, 3) := by decide +kernel
theorem d_m_about_96 : decode c_m_about 96 = .ok (.iload_n 3, 1) := by decide +kernel
theorem d_m_about_97 : decode c_m_about 97 = .ok (.iaload, 1) := by decide +kernel
theorem d_m_about_98 : decode c_m_about 98 = .ok (.sipush 10000, 3) := by decide +kernel
theorem d_m_about_101 : decode c_m_about 101 = .ok (.irem, 1) := by decide +kernel
theorem d_m_about_102 : decode c_m_about 102 = .ok (.sipush 10000, 3) := by decide +kernel
theorem d_m_about_105 : decode c_m_about 105 = .ok (.imul, 1) := by decide +kernel
theorem d_m_about_106 : decode c_m_about 106 = .ok (.sipush 3700, 3) := by decide +kernel
theorem d_m_about_109 : decode c_m_about 109 = .ok (.iadd, 1) := by decide +kernel
theorem d_m_about_110 : decode c_m_about 110 = .ok (.aload_n 0, 1) := by decide +kernel
theorem d_m_about_111 : decode c_m_about 111 = .ok (.iload_n 3, 1) := by decide +kernel
theorem d_m_about_112 : decode c_m_about 112 = .ok (.invokevirtual 156, 3) := by decide +kernel
theorem d_m_about_115 : decode c_m_about 115 = .ok (.iadd, 1) := by decide +kernel
theorem d_m_about_116 : decode c_m_about 116 = .ok (.ireturn, 1) := by decide +kernel
theorem d_m_about_117 : decode c_m_about 117 = .ok (.aload_n 0, 1) := by decide +kernel
theorem d_m_about_118 : decode c_m_about 118 = .ok (.getfield 34, 3) := by decide +kernel
theorem d_m_about_121 : decode c_m_about 121 = .ok (.iload_n 3, 1) := by decide +kernel
theorem d_m_about_122 : decode c_m_about 122 = .ok (.baload, 1) := by decide +kernel
theorem d_m_about_123 : decode c_m_about 123 = .ok (.ifCond .eq 7, 3) := by decide +kernel
theorem d_m_about_126 : decode c_m_about 126 = .ok (.iconst 1, 1) := by decide +kernel
theorem d_m_about_127 : decode c_m_about 127 = .ok (.goto 4, 3) := by decide +kernel
theorem d_m_about_130 : decode c_m_about 130 = .ok (.iconst 0, 1) := by decide +kernel
theorem d_m_about_131 : decode c_m_about 131 = .ok (.ireturn, 1) := by decide +kernel
theorem d_m_container_0 : decode c_m_container 0 = .ok (.aload_n 0, 1) := by decide +kernel
theorem d_m_container_1 : decode c_m_container 1 = .ok (.iload_n 1, 1) := by decide +kernel
theorem d_m_container_2 : decode c_m_container 2 = .ok (.invokevirtual 159, 3) := by decide +kernel
theorem d_m_container_5 : decode c_m_container 5 = .ok (.istore_n 3, 1) := by decide +kernel
theorem d_m_container_6 : decode c_m_container 6 = .ok (.aload_n 0, 1) := by decide +kernel
theorem d_m_container_7 : decode c_m_container 7 = .ok (.iload_n 3, 1) := by decide +kernel
theorem d_m_container_8 : decode c_m_container 8 = .ok (.iconst (-1), 1) := by decide +kernel
theorem d_m_container_9 : decode c_m_container 9 = .ok (.if_icmp .eq 13, 3) := by decide +kernel
theorem d_m_container_12 : decode c_m_container 12 = .ok (.iload_n 2, 1) := by decide +kernel
theorem d_m_container_13 : decode c_m_container 13 = .ok (.iconst 0, 1) := by decide +kernel
theorem d_m_container_14 : decode c_m_container 14 = .ok (.bipush 6, 2) := by decide +kernel
theorem d_m_container_16 : decode c_m_container 16 = .ok (.invokestatic 63, 3) := by decide +kernel
theorem d_m_container_19 : decode c_m_container 19 = .ok (.ifCond .ne 7, 3) := by decide +kernel
theorem d_m_container_22 : decode c_m_container 22 = .ok (.iconst 1, 1) := by decide +kernel
theorem d_m_container_23 : decode c_m_container 23 = .ok (.goto 4, 3) := by decide +kernel
theorem d_m_container_26 : decode c_m_container 26 = .ok (.iconst 0, 1) := by decide +kernel
theorem d_m_container_27 : decode c_m_container 27 = .ok (.iconst 1, 1) := by decide +kernel
theorem d_m_container_28 : decode c_m_container 28 = .ok (.invokevirtual 59, 3) := by decide +kernel
theorem d_m_container_31 : decode c_m_container 31 = .ok (.ifCond .eq 5, 3) := by decide +kernel
theorem d_m_container_34 : decode c_m_container 34 = .ok (.iconst 0, 1) := by decide +kernel
theorem d_m_container_35 : decode c_m_container 35 = .ok (.ireturn, 1) := by decide +kernel
theorem d_m_container_36 : decode c_m_container 36 = .ok (.iload_n 2, 1) := by decide +kernel
theorem d_m_container_37 : decode c_m_container 37 = .ok (.tableswitch 82 0 5 #[39, 46, 53, 60, 67, 74], 39) := by decide +kernel
theorem d_m_container_76 : decode c_m_container 76 = .ok (.aload_n 0, 1) := by decide +kernel
theorem d_m_container_77 : decode c_m_container 77 = .ok (.iload_n 3, 1) := by decide +kernel
theorem d_m_container_78 : decode c_m_container 78 = .ok (.iconst 2, 1) := by decide +kernel
theorem d_m_container_79 : decode c_m_container 79 = .ok (.invokevirtual 48, 3) := by decide +kernel
theorem d_m_container_82 : decode c_m_container 82 = .ok (.ireturn, 1) := by decide +kernel
theorem d_m_container_83 : decode c_m_container 83 = .ok (.aload_n 0, 1) := by decide +kernel
theorem d_m_container_84 : decode c_m_container 84 = .ok (.iload_n 3, 1) := by decide +kernel
theorem d_m_container_85 : decode c_m_container 85 = .ok (.iconst 1, 1) := by decide +kernel
theorem d_m_container_86 : decode c_m_container 86 = .ok (.invokevirtual 48, 3) := by decide +kernel
theorem d_m_container_89 : decode c_m_container 89 = .ok (.ireturn, 1) := by decide +kernel
theorem d_m_container_90 : decode c_m_container 90 = .ok (.aload_n 0, 1) := by decide +kernel
theorem d_m_container_91 : decode c_m_container 91 = .ok (.iload_n 3, 1) := by decide +kernel
theorem d_m_container_92 : decode c_m_container 92 = .ok (.iconst 3, 1) := by decide +kernel
theorem d_m_container_93 : decode c_m_container 93 = .ok (.invokevirtual 48, 3) := by decide +kernel
theorem d_m_container_96 : decode c_m_container 96 = .ok (.ireturn, 1) := by decide +kernel
theorem d_m_container_97 : decode c_m_container 97 = .ok (.aload_n 0, 1) := by decide +kernel
theorem d_m_container_98 : decode c_m_container 98 = .ok (.iload_n 3, 1) := by decide +kernel
theorem d_m_container_99 : decode c_m_container 99 = .ok (.iconst 4, 1) := by decide +kernel
theorem d_m_container_100 : decode c_m_container 100 = .ok (.invokevirtual 48, 3) := by decide +kernel
theorem d_m_container_103 : decode c_m_container 103 = .ok (.ireturn, 1) := by decide +kernel
theorem d_m_container_104 : decode c_m_container 104 = .ok (.aload_n 0, 1) := by decide +kernel
theorem d_m_container_105 : decode c_m_container 105 = .ok (.iload_n 3, 1) := by decide +kernel
theorem d_m_container_106 : decode c_m_container 106 = .ok (.iconst 5, 1) := by decide +kernel
theorem d_m_container_107 : decode c_m_container 107 = .ok (.invokevirtual 48, 3) := by decide +kernel
theorem d_m_container_110 : decode c_m_container 110 = .ok (.ireturn, 1) := by decide +kernel
theorem d_m_container_111 : decode c_m_container 111 = .ok (.aload_n 0, 1) := by decide +kernel
theorem d_m_container_112 : decode c_m_container 112 = .ok (.iload_n 3, 1) := by decide +kernel
theorem d_m_container_113 : decode c_m_container 113 = .ok (.bipush 7, 2) := by decide +kernel
theorem d_m_container_115 : decode c_m_container 115 = .ok (.invokevirtual 48, 3) := by decide +kernel
theorem d_m_container_118 : decode c_m_container 118 = .ok (.ireturn, 1) := by decide +kernel
theorem d_m_container_119 : decode c_m_container 119 = .ok (.aload_n 0, 1) := by decide +kernel
theorem d_m_container_120 : decode c_m_container 120 = .ok (.iload_n 3, 1) := by decide +kernel
theorem d_m_container_121 : decode c_m_container 121 = .ok (.bipush 8, 2) := by decide +kernel
theorem d_m_container_123 : decode c_m_container 123 = .ok (.invokevirtual 48, 3) := by decide +kernel
theorem d_m_container_126 : decode c_m_container 126 = .ok (.ireturn, 1) := by decide +kernel
theorem d_m_belt_0 : decode c_m_belt 0 = .ok (.aload_n 0, 1) := by decide +kernel
theorem d_m_belt_1 : decode c_m_belt 1 = .ok (.iconst 0, 1) := by decide +kernel
theorem d_m_belt_2 : decode c_m_belt 2 = .ok (.putfield 44, 3) := by decide +kernel
theorem d_m_belt_5 : decode c_m_belt 5 = .ok (.iload_n 1, 1) := by decide +kernel
theorem d_m_belt_6 : decode c_m_belt 6 = .ok (.ifCond .lt 20, 3) := by decide +kernel
theorem d_m_belt_9 : decode c_m_belt 9 = .ok (.iload_n 1, 1) := by decide +kernel
theorem d_m_belt_10 : decode c_m_belt 10 = .ok (.aload_n 0, 1) := by decide +kernel
theorem d_m_belt_11 : decode c_m_belt 11 = .ok (.getfield 52, 3) := by decide +kernel
theorem d_m_belt_14 : decode c_m_belt 14 = .ok (.if_icmp .ge 12, 3) := by decide +kernel
theorem d_m_belt_17 : decode c_m_belt 17 = .ok (.aload_n 0, 1) := by decide +kernel
theorem d_m_belt_18 : decode c_m_belt 18 = .ok (.iload_n 1, 1) := by decide +kernel
theorem d_m_belt_19 : decode c_m_belt 19 = .ok (.iconst 0, 1) := by decide +kernel
theorem d_m_belt_20 : decode c_m_belt 20 = .ok (.invokevirtual 48, 3) := by decide +kernel
theorem d_m_belt_23 : decode c_m_belt 23 = .ok (.goto 4, 3) := by decide +kernel
theorem d_m_belt_26 : decode c_m_belt 26 = .ok (.iconst (-1), 1) := by decide +kernel
theorem d_m_belt_27 : decode c_m_belt 27 = .ok (.ireturn, 1) := by decide +kernel
theorem d_m_bin_0 : decode c_m_bin 0 = .ok (.aload_n 0, 1) := by decide +kernel
theorem d_m_bin_1 : decode c_m_bin 1 = .ok (.iload_n 1, 1) := by decide +kernel
theorem d_m_bin_2 : decode c_m_bin 2 = .ok (.iconst 0, 1) := by decide +kernel
theorem d_m_bin_3 : decode c_m_bin 3 = .ok (.iconst 2, 1) := by decide +kernel
theorem d_m_bin_4 : decode c_m_bin 4 = .ok (.invokestatic 63, 3) := by decide +kernel
theorem d_m_bin_7 : decode c_m_bin 7 = .ok (.ifCond .eq 12, 3) := by decide +kernel
theorem d_m_bin_10 : decode c_m_bin 10 = .ok (.iload_n 2, 1) := by decide +kernel
theorem d_m_bin_11 : decode c_m_bin 11 = .ok (.iconst 0, 1) := by decide +kernel
theorem d_m_bin_12 : decode c_m_bin 12 = .ok (.iconst 1, 1) := by decide +kernel
theorem d_m_bin_13 : decode c_m_bin 13 = .ok (.invokestatic 63, 3) := by decide +kernel
theorem d_m_bin_16 : decode c_m_bin 16 = .ok (.ifCond .ne 7, 3) := by decide +kernel
theorem d_m_bin_19 : decode c_m_bin 19 = .ok (.iconst 1, 1) := by decide +kernel
theorem d_m_bin_20 : decode c_m_bin 20 = .ok (.goto 4, 3) := by decide +kernel
theorem d_m_bin_23 : decode c_m_bin 23 = .ok (.iconst 0, 1) := by decide +kernel
theorem d_m_bin_24 : decode c_m_bin 24 = .ok (.iconst 1, 1) := by decide +kernel
theorem d_m_bin_25 : decode c_m_bin 25 = .ok (.invokevirtual 59, 3) := by decide +kernel
theorem d_m_bin_28 : decode c_m_bin 28 = .ok (.ifCond .eq 5, 3) := by decide +kernel
theorem d_m_bin_31 : decode c_m_bin 31 = .ok (.iconst 0, 1) := by decide +kernel
theorem d_m_bin_32 : decode c_m_bin 32 = .ok (.ireturn, 1) := by decide +kernel
theorem d_m_bin_33 : decode c_m_bin 33 = .ok (.iload_n 2, 1) := by decide +kernel
theorem d_m_bin_34 : decode c_m_bin 34 = .ok (.ifCond .ne 12, 3) := by decide +kernel
theorem d_m_bin_37 : decode c_m_bin 37 = .ok (.aload_n 0, 1) := by decide +kernel
theorem d_m_bin_38 : decode c_m_bin 38 = .ok (.getfield 22, 3) := by decide +kernel
theorem d_m_bin_41 : decode c_m_bin 41 = .ok (.iload_n 1, 1) := by decide +kernel
theorem d_m_bin_42 : decode c_m_bin 42 = .ok (.iaload, 1) := by decide +kernel
theorem d_m_bin_43 : decode c_m_bin 43 = .ok (.goto 9, 3) := by decide +kernel
theorem d_m_bin_46 : decode c_m_bin 46 = .ok (.aload_n 0, 1) := by decide +kernel
theorem d_m_bin_47 : decode c_m_bin 47 = .ok (.getfield 25, 3) := by decide +kernel
theorem d_m_bin_50 : decode c_m_bin 50 = .ok (.iload_n 1, 1) := by decide +kernel
theorem d_m_bin_51 : decode c_m_bin 51 = .ok (.iaload, 1) := by decide +kernel
theorem d_m_bin_52 : decode c_m_bin 52 = .ok (.ireturn, 1) := by decide +kernel
theorem d_m_total_0 : decode c_m_total 0 = .ok (.aload_n 0, 1) := by decide +kernel
theorem d_m_total_1 : decode c_m_total 1 = .ok (.iload_n 1, 1) := by decide +kernel
theorem d_m_total_2 : decode c_m_total 2 = .ok (.iconst 0, 1) := by decide +kernel
theorem d_m_total_3 : decode c_m_total 3 = .ok (.bipush 20, 2) := by decide +kernel
theorem d_m_total_5 : decode c_m_total 5 = .ok (.invokestatic 63, 3) := by decide +kernel
theorem d_m_total_8 : decode c_m_total 8 = .ok (.ifCond .ne 7, 3) := by decide +kernel
theorem d_m_total_11 : decode c_m_total 11 = .ok (.iconst 1, 1) := by decide +kernel
theorem d_m_total_12 : decode c_m_total 12 = .ok (.goto 4, 3) := by decide +kernel
theorem d_m_total_15 : decode c_m_total 15 = .ok (.iconst 0, 1) := by decide +kernel
theorem d_m_total_16 : decode c_m_total 16 = .ok (.iconst 1, 1) := by decide +kernel
theorem d_m_total_17 : decode c_m_total 17 = .ok (.invokevirtual 59, 3) := by decide +kernel
theorem d_m_total_20 : decode c_m_total 20 = .ok (.ifCond .eq 5, 3) := by decide +kernel
theorem d_m_total_23 : decode c_m_total 23 = .ok (.iconst 0, 1) := by decide +kernel
theorem d_m_total_24 : decode c_m_total 24 = .ok (.ireturn, 1) := by decide +kernel
theorem d_m_total_25 : decode c_m_total 25 = .ok (.iload_n 1, 1) := by decide +kernel
theorem d_m_total_26 : decode c_m_total 26 = .ok (.ifCond .le 16, 3) := by decide +kernel
theorem d_m_total_29 : decode c_m_total 29 = .ok (.iload_n 1, 1) := by decide +kernel
theorem d_m_total_30 : decode c_m_total 30 = .ok (.bipush 10, 2) := by decide +kernel
theorem d_m_total_32 : decode c_m_total 32 = .ok (.if_icmp .ge 10, 3) := by decide +kernel
theorem d_m_total_35 : decode c_m_total 35 = .ok (.aload_n 0, 1) := by decide +kernel
theorem d_m_total_36 : decode c_m_total 36 = .ok (.getfield 41, 3) := by decide +kernel
theorem d_m_total_39 : decode c_m_total 39 = .ok (.iload_n 1, 1) := by decide +kernel
theorem d_m_total_40 : decode c_m_total 40 = .ok (.iaload, 1) := by decide +kernel
theorem d_m_total_41 : decode c_m_total 41 = .ok (.ireturn, 1) := by decide +kernel
theorem d_m_total_42 : decode c_m_total 42 = .ok (.iload_n 1, 1) := by decide +kernel
theorem d_m_total_43 : decode c_m_total 43 = .ok (.tableswitch 172 0 19 #[93, 172, 172, 172, 172, 172, 172, 172, 172, 172, 98, 103, 108, 113, 118, 123, 128, 141, 154, 167], 93) := by decide +kernel
theorem d_m_total_136 : decode c_m_total 136 = .ok (.aload_n 0, 1) := by decide +kernel
theorem d_m_total_137 : decode c_m_total 137 = .ok (.getfield 110, 3) := by decide +kernel
theorem d_m_total_140 : decode c_m_total 140 = .ok (.ireturn, 1) := by decide +kernel
theorem d_m_total_141 : decode c_m_total 141 = .ok (.aload_n 0, 1) := by decide +kernel
theorem d_m_total_142 : decode c_m_total 142 = .ok (.getfield 113, 3) := by decide +kernel
theorem d_m_total_145 : decode c_m_total 145 = .ok (.ireturn, 1) := by decide +kernel
theorem d_m_total_146 : decode c_m_total 146 = .ok (.aload_n 0, 1) := by decide +kernel
theorem d_m_total_147 : decode c_m_total 147 = .ok (.getfield 116, 3) := by decide +kernel
theorem d_m_total_150 : decode c_m_total 150 = .ok (.ireturn, 1) := by decide +kernel
theorem d_m_total_151 : decode c_m_total 151 = .ok (.aload_n 0, 1) := by decide +kernel
theorem d_m_total_152 : decode c_m_total 152 = .ok (.getfield 142, 3) := by decide +kernel
theorem d_m_total_155 : decode c_m_total 155 = .ok (.ireturn, 1) := by decide +kernel
theorem d_m_total_156 : decode c_m_total 156 = .ok (.aload_n 0, 1) := by decide +kernel
theorem d_m_total_157 : decode c_m_total 157 = .ok (.getfield 145, 3) := by decide +kernel
theorem d_m_total_160 : decode c_m_total 160 = .ok (.ireturn, 1) := by decide +kernel
theorem d_m_total_161 : decode c_m_total 161 = .ok (.aload_n 0, 1) := by decide +kernel
theorem d_m_total_162 : decode c_m_total 162 = .ok (.getfield 94, 3) := by decide +kernel
theorem d_m_total_165 : decode c_m_total 165 = .ok (.ireturn, 1) := by decide +kernel
theorem d_m_total_166 : decode c_m_total 166 = .ok (.aload_n 0, 1) := by decide +kernel
theorem d_m_total_167 : decode c_m_total 167 = .ok (.getfield 52, 3) := by decide +kernel
theorem d_m_total_170 : decode c_m_total 170 = .ok (.ireturn, 1) := by decide +kernel
theorem d_m_total_171 : decode c_m_total 171 = .ok (.aload_n 0, 1) := by decide +kernel
theorem d_m_total_172 : decode c_m_total 172 = .ok (.getfield 55, 3) := by decide +kernel
theorem d_m_total_175 : decode c_m_total 175 = .ok (.ifCond .eq 7, 3) := by decide +kernel
theorem d_m_total_178 : decode c_m_total 178 = .ok (.iconst 0, 1) := by decide +kernel
theorem d_m_total_179 : decode c_m_total 179 = .ok (.goto 4, 3) := by decide +kernel
theorem d_m_total_182 : decode c_m_total 182 = .ok (.iconst 1, 1) := by decide +kernel
theorem d_m_total_183 : decode c_m_total 183 = .ok (.ireturn, 1) := by decide +kernel
theorem d_m_total_184 : decode c_m_total 184 = .ok (.aload_n 0, 1) := by decide +kernel
theorem d_m_total_185 : decode c_m_total 185 = .ok (.invokevirtual 123, 3) := by decide +kernel
theorem d_m_total_188 : decode c_m_total 188 = .ok (.ifCond .eq 7, 3) := by decide +kernel
theorem d_m_total_191 : decode c_m_total 191 = .ok (.iconst 1, 1) := by decide +kernel
theorem d_m_total_192 : decode c_m_total 192 = .ok (.goto 4, 3) := by decide +kernel
theorem d_m_total_195 : decode c_m_total 195 = .ok (.iconst 0, 1) := by decide +kernel
theorem d_m_total_196 : decode c_m_total 196 = .ok (.ireturn, 1) := by decide +kernel
theorem d_m_total_197 : decode c_m_total 197 = .ok (.aload_n 0, 1) := by decide +kernel
theorem d_m_total_198 : decode c_m_total 198 = .ok (.invokevirtual 97, 3) := by decide +kernel
theorem d_m_total_201 : decode c_m_total 201 = .ok (.ifCond .eq 7, 3) := by decide +kernel
theorem d_m_total_204 : decode c_m_total 204 = .ok (.iconst 1, 1) := by decide +kernel
theorem d_m_total_205 : decode c_m_total 205 = .ok (.goto 4, 3) := by decide +kernel
theorem d_m_total_208 : decode c_m_total 208 = .ok (.iconst 0, 1) := by decide +kernel
theorem d_m_total_209 : decode c_m_total 209 = .ok (.ireturn, 1) := by decide +kernel
theorem d_m_total_210 : decode c_m_total 210 = .ok (.aload_n 0, 1) := by decide +kernel
theorem d_m_total_211 : decode c_m_total 211 = .ok (.getfield 88, 3) := by decide +kernel
theorem d_m_total_214 : decode c_m_total 214 = .ok (.ireturn, 1) := by decide +kernel
theorem d_m_total_215 : decode c_m_total 215 = .ok (.aload_n 0, 1) := by decide +kernel
theorem d_m_total_216 : decode c_m_total 216 = .ok (.getfield 85, 3) := by decide +kernel
theorem d_m_total_219 : decode c_m_total 219 = .ok (.ireturn, 1) := by decide +kernel
end
section
/-! the class, as pure functions of the flat memory: written by program out of the bytecode -/
def F_b_requireOn (z : fST) : Option ((Unit ⊕ Nat) × fST) := if (f_gI z 23 0 2) = 0 then (some (.inr 1, z)) else (some (.inl (()), z))
def F_b_isIndex (a0 : Int32) (a1 : Int32) (z : fST) : Option (Int32 × fST) := if a0 < 0 then (some (0, z)) else (if a1 ≤ a0 then (some (0, z)) else (some (1, z)))
def F_b_require (a0 : Int32) (z : fST) : Option ((Unit ⊕ Nat) × fST) := if a0 = 0 then (some (.inr 2, z)) else (some (.inl (()), z))
def F_b_isWithin (a0 : Int32) (a1 : Int32) (a2 : Int32) (z : fST) : Option (Int32 × fST) := if a0 < a1 then (some (0, z)) else (if a2 < a0 then (some (0, z)) else (some (1, z)))
def b_ca_setContour_21 (k3 : Int32 × Int32 × Int32 × Int32 × Int32 × fST → Option (Unit × fST)) (x1 : Int32) (x2 : Int32) (x3 : Int32) (x4 : Int32) (x5 : Int32) (y0 : Int32) (z : fST) : Option (Unit × fST) := f_gd (f_ib x1 8) (f_gd (f_ib x5 8) (k3 (x1, x2, x3, x4, (x5 + 1), f_pI z 9 (f_ix x1) (f_ix x5) ((f_us y0 (24 - ((x5 - x5 / 4 * 4) * 8))) &&& 255))))
def b_ca_setContour_3  (k3 : Int32 × Int32 × Int32 × Int32 × Int32 × fST → Option (Unit × fST)) (v : Int32 × Int32 × Int32 × Int32 × Int32 × fST) : Option (Unit × fST) := match v with
  | (x1, x2, x3, x4, x5, z) => if 8 ≤ x5 then (f_gd (f_ib x1 8) (some ((()), f_pI z 10 0 (f_ix x1) x4))) else (if 4 ≤ x5 then (b_ca_setContour_21 k3 x1 x2 x3 x4 x5 x3 z) else (b_ca_setContour_21 k3 x1 x2 x3 x4 x5 x2 z))
def F_ca_setContour (a1 : Int32) (a2 : Int32) (a3 : Int32) (a4 : Int32) (z : fST) : Option (Unit × fST) := f_it (b_ca_setContour_3) 2000 (a1, a2, a3, a4, 0, z)
def F_b_contour (a1 : Int32) (a2 : Int32) (a3 : Int32) (a4 : Int32) (z : fST) : Option ((Unit ⊕ Nat) × fST) := f_bx (F_b_requireOn z) (fun v1 z1 => f_bd (F_b_isIndex a1 8 z1) (fun v2 z2 => f_bx (F_b_require v2 z2) (fun v3 z3 => f_bd (F_b_isWithin a4 0 2040 z3) (fun v4 z4 => f_bx (F_b_require v4 z4) (fun v5 z5 => f_bd (F_ca_setContour a1 a2 a3 a4 z5) (fun v6 z6 => some (.inl (()), z6))) (fun v5 z5 => some (.inr v5, z5)))) (fun v3 z3 => some (.inr v3, z3)))) (fun v1 z1 => some (.inr v1, z1))
def F_b_requireEmptyBelt (z : fST) : Option ((Unit ⊕ Nat) × fST) := if (f_gI z 11 0 1) ≤ 0 then (some (.inl (()), z)) else (some (.inr 1, z))
def b_ca_kindWith_2  (k2 : Int32 × Int32 × fST → Option (Int32 × fST)) (v : Int32 × Int32 × fST) : Option (Int32 × fST) := match v with
  | (x1, x2, z) => if 40 ≤ x2 then (some (((-1)), z)) else (f_gd (f_ib x2 40) (if (f_gI z 2 0 (f_ix x2)) = x1 then (some (x2, z)) else (k2 (x1, (x2 + 1), z))))
def F_ca_kindWith (a1 : Int32) (z : fST) : Option (Int32 × fST) := f_it (b_ca_kindWith_2) 2000 (a1, 0, z)
def F_ca_dropCode (a1 : Int32) (z : fST) : Option (Unit × fST) := if a1 = ((-1)) then (some ((()), z)) else (f_gd (f_ib a1 40) (some ((()), f_pI z 2 0 (f_ix a1) 0)))
def F_ca_setKind (a1 : Int32) (a2 : Int32) (a3 : Int32) (a4 : Int32) (a5 : Int32) (a6 : Int32) (a7 : Int32) (z : fST) : Option (Unit × fST) := f_gd (f_ib a1 40) (f_gd (f_ib a1 40) (f_gd (f_ib a1 40) (f_gd (f_ib a1 40) (f_gd (f_ib a1 40) (f_gd (f_ib a1 40) (some ((()), f_pI (f_pI (f_pI (f_pI (f_pI (f_pI z 2 0 (f_ix a1) a2) 3 0 (f_ix a1) a3) 4 0 (f_ix a1) a4) 5 0 (f_ix a1) a5) 6 0 (f_ix a1) a6) 7 0 (f_ix a1) a7)))))))
def F_b_kind (a1 : Int32) (a2 : Int32) (a3 : Int32) (a4 : Int32) (a5 : Int32) (a6 : Int32) (a7 : Int32) (z : fST) : Option ((Int32 ⊕ Nat) × fST) := f_bx (F_b_requireOn z) (fun v1 z1 => f_bx (F_b_requireEmptyBelt z1) (fun v2 z2 => f_bd (F_b_isIndex a1 40 z2) (fun v3 z3 => f_bx (F_b_require v3 z3) (fun v4 z4 => f_bd (F_b_isWithin a2 1 999999 z4) (fun v5 z5 => f_bx (F_b_require v5 z5) (fun v6 z6 => f_bd (F_b_isWithin a3 1 500 z6) (fun v7 z7 => f_bx (F_b_require v7 z7) (fun v8 z8 => f_bd (F_b_isIndex a4 3 z8) (fun v9 z9 => f_bx (F_b_require v9 z9) (fun v10 z10 => f_bd (F_b_isWithin a6 0 5000 z10) (fun v11 z11 => f_bx (F_b_require v11 z11) (fun v12 z12 => f_bd (F_b_isWithin a5 0 a6 z12) (fun v13 z13 => f_bx (F_b_require v13 z13) (fun v14 z14 => f_bd (F_b_isIndex a7 8 z14) (fun v15 z15 => f_bx (F_b_require v15 z15) (fun v16 z16 => f_bd (F_ca_kindWith a2 z16) (fun v17 z17 => f_bd (F_ca_dropCode v17 z17) (fun v18 z18 => f_bd (F_ca_setKind a1 a2 a3 a4 a5 a6 a7 z18) (fun v19 z19 => some (.inl v17, z19))))) (fun v16 z16 => some (.inr v16, z16)))) (fun v14 z14 => some (.inr v14, z14)))) (fun v12 z12 => some (.inr v12, z12)))) (fun v10 z10 => some (.inr v10, z10)))) (fun v8 z8 => some (.inr v8, z8)))) (fun v6 z6 => some (.inr v6, z6)))) (fun v4 z4 => some (.inr v4, z4)))) (fun v2 z2 => some (.inr v2, z2))) (fun v1 z1 => some (.inr v1, z1))
def F_co_rear (a0 : Nat) (z : fST) : Option (Int32 × fST) := some (((f_gI z 13 a0 4) - (f_gI z 13 a0 3)), z)
def F_co_forget (a0 : Nat) (z : fST) : Option (Unit × fST) := some ((()), f_pI (f_pI (f_pI (f_pI (f_pI z 14 a0 1 0) 14 (a0 + 16) 1 0) 13 a0 5 ((-1))) 13 a0 6 0) 13 a0 7 ((-1)))
def F_co_begin (a0 : Nat) (a1 : Int32) (a2 : Int32) (z : fST) : Option (Unit × fST) := f_bd (F_co_forget a0 (f_pI (f_pI (f_pI (f_pI z 13 a0 2 a1) 13 a0 3 a2) 13 a0 4 0) 13 a0 8 0)) (fun v1 z1 => some ((()), z1))
def b_be_putIn_41 (x1 : Int32) (z : fST) : Option (Int32 × fST) := f_gd (f_ib (f_gI (f_pI z 11 0 2 ((f_gI z 11 0 2) + 1)) 11 0 1) 16) (f_gd (decide (f_gR (f_pI z 11 0 2 ((f_gI z 11 0 2) + 1)) (f_ix (f_gI (f_pI z 11 0 2 ((f_gI z 11 0 2) + 1)) 11 0 1)) < 16)) (f_bd (F_co_begin (f_gR (f_pI z 11 0 2 ((f_gI z 11 0 2) + 1)) (f_ix (f_gI (f_pI z 11 0 2 ((f_gI z 11 0 2) + 1)) 11 0 1))) (f_gI (f_pI z 11 0 2 ((f_gI z 11 0 2) + 1)) 11 0 2) x1 (f_pI z 11 0 2 ((f_gI z 11 0 2) + 1))) (fun v9 z9 => some ((f_gI (f_pI z9 11 0 1 ((f_gI z9 11 0 1) + 1)) 11 0 2), f_pI z9 11 0 1 ((f_gI z9 11 0 1) + 1)))))
def F_be_putIn (a1 : Int32) (z : fST) : Option (Int32 × fST) := if (f_gI z 11 0 1) < (nI 16) then (if (f_gI z 11 0 1) ≤ 0 then (b_be_putIn_41 a1 z) else (f_gd (f_ib ((f_gI z 11 0 1) - 1) 16) (f_gd (decide (f_gR z (f_ix ((f_gI z 11 0 1) - 1)) < 16)) (f_bd (F_co_rear (f_gR z (f_ix ((f_gI z 11 0 1) - 1))) z) (fun v5 z5 => if 4 ≤ v5 then (b_be_putIn_41 a1 z5) else (some (0, z5))))))) else (some (0, z))
def F_b_enter (a1 : Int32) (z : fST) : Option ((Int32 ⊕ Nat) × fST) := f_bx (F_b_requireOn z) (fun v1 z1 => f_bd (F_b_isWithin a1 5 40 z1) (fun v2 z2 => f_bx (F_b_require v2 z2) (fun v3 z3 => f_bd (F_be_putIn a1 z3) (fun v4 z4 => some (.inl v4, z4))) (fun v3 z3 => some (.inr v3, z3)))) (fun v1 z1 => some (.inr v1, z1))
def F_co_isOver (a0 : Nat) (a1 : Int32) (z : fST) : Option (Int32 × fST) := f_bd (F_co_rear a0 z) (fun v1 z1 => if a1 ≤ v1 then (some (0, z1)) else (if (f_gI z1 13 a0 4) < a1 then (some (0, z1)) else (some (1, z1))))
def b_be_over_2  (k2 : Int32 × Int32 × fST → Option (Option Nat × fST)) (v : Int32 × Int32 × fST) : Option (Option Nat × fST) := match v with
  | (x1, x2, z) => if (f_gI z 11 0 1) ≤ x2 then (some (none, z)) else (f_gd (f_ib x2 16) (f_gd (decide (f_gR z (f_ix x2) < 16)) (f_bd (F_co_isOver (f_gR z (f_ix x2)) x1 z) (fun v4 z4 => if v4 = 0 then (k2 (x1, (x2 + 1), z4)) else (f_gd (f_ib x2 16) (f_gd (decide (f_gR z4 (f_ix x2) < 16)) (some ((some (f_gR z4 (f_ix x2))), z4))))))))
def F_be_over (a1 : Int32) (z : fST) : Option (Option Nat × fST) := f_it (b_be_over_2) 2000 (a1, 0, z)
def F_ro_isFull (a0 : Nat) (z : fST) : Option (Int32 × fST) := if (f_gI z 14 a0 1) < (nI (f_ln a0)) then (some (0, z)) else (some (1, z))
def F_ro_take (a0 : Nat) (a1 : Int32) (z : fST) : Option (Int32 × fST) := f_bd (F_ro_isFull a0 z) (fun v1 z1 => if v1 = 0 then (f_gd (f_ib (f_gI z1 14 a0 1) (f_ln a0)) (some (1, f_pI (f_pI z1 15 a0 (f_ix (f_gI z1 14 a0 1)) a1) 14 a0 1 ((f_gI (f_pI z1 15 a0 (f_ix (f_gI z1 14 a0 1)) a1) 14 a0 1) + 1)))) else (some (0, z1)))
def F_b_code (a1 : Int32) (z : fST) : Option ((Int32 ⊕ Nat) × fST) := f_bx (F_b_requireOn z) (fun v1 z1 => f_bd (F_b_isWithin a1 1 999999 z1) (fun v2 z2 => f_bx (F_b_require v2 z2) (fun v3 z3 => f_bd (F_be_over 15 z3) (fun v4 z4 => f_cz v4 (some (.inl 0, z4)) (fun i4 => f_gd (decide (i4 < 16)) (f_bd (F_ro_take i4 a1 z4) (fun v5 z5 => if v5 = 0 then (some (.inl 0, z5)) else (some (.inl 1, z5))))))) (fun v3 z3 => some (.inr v3, z3)))) (fun v1 z1 => some (.inr v1, z1))
def F_b_width (a1 : Int32) (z : fST) : Option ((Int32 ⊕ Nat) × fST) := f_bx (F_b_requireOn z) (fun v1 z1 => f_bd (F_b_isWithin a1 0 255 z1) (fun v2 z2 => f_bx (F_b_require v2 z2) (fun v3 z3 => f_bd (F_be_over 30 z3) (fun v4 z4 => f_cz v4 (some (.inl 0, z4)) (fun i4 => f_gd (decide (i4 < 16)) (f_bd (F_ro_take (i4 + 16) a1 z4) (fun v5 z5 => if v5 = 0 then (some (.inl 0, z5)) else (some (.inl 1, z5))))))) (fun v3 z3 => some (.inr v3, z3)))) (fun v1 z1 => some (.inr v1, z1))
def F_b_weigh (a1 : Int32) (z : fST) : Option ((Int32 ⊕ Nat) × fST) := f_bx (F_b_requireOn z) (fun v1 z1 => f_bd (F_b_isWithin a1 0 5000 z1) (fun v2 z2 => f_bx (F_b_require v2 z2) (fun v3 z3 => f_bd (F_be_over 45 z3) (fun v4 z4 => f_cz v4 (some (.inl 0, z4)) (fun i4 => f_gd (decide (i4 < 16)) (some (.inl 1, f_pI z4 13 i4 5 a1))))) (fun v3 z3 => some (.inr v3, z3)))) (fun v1 z1 => some (.inr v1, z1))
def b_be_isBlocked_40 (k2 : Int32 × fST → Option (Int32 × fST)) (x1 : Int32) (z : fST) : Option (Int32 × fST) := k2 ((x1 + 1), z)
def b_be_isBlocked_2  (k2 : Int32 × fST → Option (Int32 × fST)) (v : Int32 × fST) : Option (Int32 × fST) := match v with
  | (x1, z) => if (f_gI z 11 0 1) ≤ x1 then (some (0, z)) else (f_gd (f_ib x1 16) (f_gd (decide (f_gR z (f_ix x1) < 16)) (if (f_gI z 13 (f_gR z (f_ix x1)) 4) = 104 then (f_gd (f_ib x1 16) (f_gd (decide (f_gR z (f_ix x1) < 16)) (if (f_gI z 13 (f_gR z (f_ix x1)) 6) = 10 then (b_be_isBlocked_40 k2 x1 z) else (some (1, z))))) else (b_be_isBlocked_40 k2 x1 z))))
def F_be_isBlocked (z : fST) : Option (Int32 × fST) := f_it (b_be_isBlocked_2) 2000 (0, z)
def b_be_moveUp_2  (k2 : Int32 × fST → Option (Unit × fST)) (v : Int32 × fST) : Option (Unit × fST) := match v with
  | (x1, z) => if (f_gI z 11 0 1) ≤ x1 then (some ((()), z)) else (f_gd (f_ib x1 16) (f_gd (decide (f_gR z (f_ix x1) < 16)) (k2 ((x1 + 1), f_pI z 13 (f_gR z (f_ix x1)) 4 ((f_gI z 13 (f_gR z (f_ix x1)) 4) + 1)))))
def F_be_moveUp (z : fST) : Option (Unit × fST) := f_it (b_be_moveUp_2) 2000 (0, z)
def F_ca_kindOf (a1 : Nat) (z : fST) : Option (Int32 × fST) := if (f_gI z 14 a1 1) = 0 then (some (((-1)), z)) else (f_gd (f_ib 0 (f_ln a1)) (f_bd (F_ca_kindWith (f_gI z 15 a1 (f_ix 0)) z) (fun v3 z3 => some (v3, z3))))
def b_ro_isUniform_2  (k2 : Nat × Int32 × fST → Option (Int32 × fST)) (v : Nat × Int32 × fST) : Option (Int32 × fST) := match v with
  | (x0, x1, z) => if (f_gI z 14 x0 1) ≤ x1 then (some (1, z)) else (f_gd (f_ib x1 (f_ln x0)) (f_gd (f_ib 0 (f_ln x0)) (if (f_gI z 15 x0 (f_ix x1)) = (f_gI z 15 x0 (f_ix 0)) then (k2 (x0, (x1 + 1), z)) else (some (0, z)))))
def F_ro_isUniform (a0 : Nat) (z : fST) : Option (Int32 × fST) := f_it (b_ro_isUniform_2) 2000 (a0, 1, z)
def F_ca_allowsWeight (a1 : Int32) (a2 : Int32) (z : fST) : Option (Int32 × fST) := if a2 = ((-1)) then (some (0, z)) else (f_gd (f_ib a1 40) (f_gd (f_ib a1 40) (f_bd (F_b_isWithin a2 (f_gI z 5 0 (f_ix a1)) (f_gI z 6 0 (f_ix a1)) z) (fun v4 z4 => if v4 = 0 then (some (0, z4)) else (some (1, z4))))))
def b_ca_allowsWidths_22  (k22 : Nat × Int32 × Int32 × Int32 × fST → Option (Int32 × fST)) (v : Nat × Int32 × Int32 × Int32 × fST) : Option (Int32 × fST) := match v with
  | (x2, x3, x4, x5, z) => if 8 ≤ x5 then (f_gd (f_ib x3 8) (if (f_gI z 10 0 (f_ix x3)) < x4 then (some (0, z)) else (some (1, z)))) else (f_gd (f_ib x5 (f_ln x2)) (f_gd (f_ib x3 8) (f_gd (f_ib x5 8) (k22 (x2, x3, (x4 + (f_ab ((f_gI z 15 x2 (f_ix x5)) - (f_gI z 9 (f_ix x3) (f_ix x5))))), (x5 + 1), z)))))
def F_ca_allowsWidths (a1 : Int32) (a2 : Nat) (z : fST) : Option (Int32 × fST) := f_bd (F_ro_isFull a2 z) (fun v1 z1 => if v1 = 0 then (some (0, z1)) else (f_gd (f_ib a1 40) (f_it (b_ca_allowsWidths_22) 2000 (a2, (f_gI z1 7 0 (f_ix a1)), 0, 0, z1))))
def F_b_judgementByReadings (a1 : Nat) (a2 : Int32) (z : fST) : Option (Int32 × fST) := if (f_gI z 14 a1 1) = 0 then (some (1, z)) else (f_bd (F_ro_isUniform a1 z) (fun v2 z2 => if v2 = 0 then (some (2, z2)) else (if a2 = ((-1)) then (some (3, z2)) else (f_bd (F_ca_allowsWeight a2 (f_gI z2 13 a1 5) z2) (fun v5 z5 => if v5 = 0 then (some (4, z5)) else (f_bd (F_ca_allowsWidths a2 (a1 + 16) z5) (fun v7 z7 => if v7 = 0 then (some (5, z7)) else (some (10, z7)))))))))
def b_b_acceptedFor_52 (k4 : Int32 × Int32 × Int32 × fST → Option (Int32 × fST)) (x1 : Int32) (x2 : Int32) (x3 : Int32) (z : fST) : Option (Int32 × fST) := k4 (x1, x2, (x3 + 1), z)
def b_b_acceptedFor_4  (k4 : Int32 × Int32 × Int32 × fST → Option (Int32 × fST)) (v : Int32 × Int32 × Int32 × fST) : Option (Int32 × fST) := match v with
  | (x1, x2, x3, z) => if (f_gI z 11 0 1) ≤ x3 then (some (x2, z)) else (f_gd (f_ib x3 16) (f_gd (decide (f_gR z (f_ix x3) < 16)) (if (f_gI z 13 (f_gR z (f_ix x3)) 7) = ((-1)) then (b_b_acceptedFor_52 k4 x1 x2 x3 z) else (f_gd (f_ib (f_gI z 13 (f_gR z (f_ix x3)) 7) 40) (if (f_gI z 4 0 (f_ix (f_gI z 13 (f_gR z (f_ix x3)) 7))) = x1 then (b_b_acceptedFor_52 k4 x1 (x2 + 1) x3 z) else (b_b_acceptedFor_52 k4 x1 x2 x3 z))))))
def F_b_acceptedFor (a1 : Int32) (z : fST) : Option (Int32 × fST) := f_it (b_b_acceptedFor_4) 2000 (a1, 0, 0, z)
def F_vo_isFull (z : fST) : Option (Int32 × fST) := if (f_gI z 19 0 3) < 60 then (some (0, z)) else (some (1, z))
def F_b_isSuspicious (z : fST) : Option (Int32 × fST) := if (f_gI z 0 0 11) ≤ 50 then (some (0, z)) else (some (1, z))
def b_la_isLike_2  (k2 : Nat × Int32 × fST → Option (Int32 × fST)) (v : Nat × Int32 × fST) : Option (Int32 × fST) := match v with
  | (x1, x2, z) => if 8 ≤ x2 then (some (1, z)) else (f_gd (f_ib x2 (f_ln x1)) (f_gd (f_ib x2 8) (if (f_gI z 15 x1 (f_ix x2)) = (f_gI z 25 0 (f_ix x2)) then (k2 (x1, (x2 + 1), z)) else (some (0, z)))))
def F_la_isLike (a1 : Nat) (z : fST) : Option (Int32 × fST) := f_it (b_la_isLike_2) 2000 (a1, 0, z)
def F_la_areAllLike (a1 : Nat) (z : fST) : Option (Int32 × fST) := if (f_gI z 24 0 1) < 3 then (some (0, z)) else (f_bd (F_la_isLike a1 z) (fun v2 z2 => if v2 = 0 then (some (0, z2)) else (some (1, z2))))
def F_b_judgementByState (a1 : Nat) (a2 : Int32) (z : fST) : Option (Int32 × fST) := f_gd (f_ib a2 40) (f_gd (f_ib (f_gI z 4 0 (f_ix a2)) 3) (f_bd (F_b_acceptedFor (f_gI z 4 0 (f_ix a2)) z) (fun v3 z3 => f_gd (f_ib (f_gI z 4 0 (f_ix a2)) 3) (if ((f_gI z 17 0 (f_ix (f_gI z 4 0 (f_ix a2)))) + v3) < (f_gI z3 18 0 (f_ix (f_gI z 4 0 (f_ix a2)))) then (f_bd (F_vo_isFull z3) (fun v6 z6 => if v6 = 0 then (f_bd (F_b_isSuspicious z6) (fun v8 z8 => if v8 = 0 then (f_bd (F_la_areAllLike (a1 + 16) z8) (fun v10 z10 => if v10 = 0 then (some (10, z10)) else (some (9, z10)))) else (some (8, z8)))) else (some (7, z6)))) else (some (6, z3))))))
def b_jo_write_38 (z : fST) : Option (Int32 × fST) := some (1, f_pI z 23 0 0 ((f_gI z 23 0 0) + 1))
def F_jo_write (z : fST) : Option (Int32 × fST) := if (f_gI z 23 0 1) = 1 then (some (0, f_pI (f_pI z 23 0 1 0) 23 0 2 0)) else (if (f_gI z 23 0 1) ≤ 1 then (b_jo_write_38 z) else (b_jo_write_38 (f_pI z 23 0 1 ((f_gI z 23 0 1) - 1))))
def b_la_note_26 (x1 : Nat) (z : fST) : Option (Unit × fST) := f_gd (decide (16 ≤ x1)) (some ((()), f_pI (f_cpL z x1) 24 0 1 1))
def F_la_note (a1 : Nat) (z : fST) : Option (Unit × fST) := if (f_gI z 24 0 1) ≤ 0 then (b_la_note_26 a1 z) else (f_bd (F_la_isLike a1 z) (fun v2 z2 => if v2 = 0 then (b_la_note_26 a1 z2) else (some ((()), f_pI z2 24 0 1 ((f_gI z2 24 0 1) + 1)))))
def b_b_judge_29 (x1 : Nat) (x2 : Int32) (x3 : Int32) (z : fST) : Option (Unit × fST) := if x3 = 10 then (f_bd (F_jo_write z) (fun v6 z6 => if v6 = 0 then (some ((()), z6)) else (f_bd (F_la_note (x1 + 16) (f_pI (f_pI z6 13 x1 6 10) 13 x1 7 x2)) (fun v8 z8 => some ((()), z8))))) else (f_gd (f_ib x3 10) (f_gd (f_ib x3 10) (some ((()), f_pI (f_pI z 13 x1 6 x3) 26 0 (f_ix x3) ((f_gI (f_pI z 13 x1 6 x3) 26 0 (f_ix x3)) + 1)))))
def F_b_judge (a1 : Nat) (z : fST) : Option (Unit × fST) := f_bd (F_ca_kindOf a1 z) (fun v1 z1 => f_bd (F_b_judgementByReadings a1 v1 z1) (fun v2 z2 => if v2 = 10 then (f_bd (F_b_judgementByState a1 v1 z2) (fun v4 z4 => b_b_judge_29 a1 v1 v4 z4)) else (b_b_judge_29 a1 v1 v2 z2)))
def F_b_pay (a1 : Nat) (z : fST) : Option (Unit × fST) := if (f_gI z 13 a1 7) = ((-1)) then (some ((()), z)) else (f_bd (F_jo_write z) (fun v2 z2 => if v2 = 0 then (some ((()), z2)) else (f_gd (f_ib (f_gI z2 13 a1 7) 40) (some ((()), f_pI (f_pI (f_pI (f_pI z2 13 a1 8 1) 0 0 7 ((f_gI (f_pI z2 13 a1 8 1) 0 0 7) + (f_gI z2 3 0 (f_ix (f_gI z2 13 a1 7))))) 0 0 9 ((f_gI (f_pI (f_pI z2 13 a1 8 1) 0 0 7 ((f_gI (f_pI z2 13 a1 8 1) 0 0 7) + (f_gI z2 3 0 (f_ix (f_gI z2 13 a1 7))))) 0 0 9) + (f_gI z2 3 0 (f_ix (f_gI z2 13 a1 7))))) 0 0 8 ((f_gI (f_pI (f_pI (f_pI z2 13 a1 8 1) 0 0 7 ((f_gI (f_pI z2 13 a1 8 1) 0 0 7) + (f_gI z2 3 0 (f_ix (f_gI z2 13 a1 7))))) 0 0 9 ((f_gI (f_pI (f_pI z2 13 a1 8 1) 0 0 7 ((f_gI (f_pI z2 13 a1 8 1) 0 0 7) + (f_gI z2 3 0 (f_ix (f_gI z2 13 a1 7))))) 0 0 9) + (f_gI z2 3 0 (f_ix (f_gI z2 13 a1 7))))) 0 0 8) + 1))))))
def b_be_takeOff_19  (k19 : Nat × Int32 × fST → Option (Unit × fST)) (v : Nat × Int32 × fST) : Option (Unit × fST) := match v with
  | (x2, x3, z) => if (f_gI z 11 0 1) ≤ x3 then (f_gd (f_ib (f_gI z 11 0 1) 16) (some ((()), f_pR z (f_ix (f_gI z 11 0 1)) x2))) else (f_gd (f_ib (x3 + 1) 16) (f_gd (decide (f_gR z (f_ix (x3 + 1)) < 16)) (f_gd (f_ib x3 16) (k19 (x2, (x3 + 1), f_pR z (f_ix x3) (f_gR z (f_ix (x3 + 1))))))))
def F_be_takeOff (a1 : Int32) (z : fST) : Option (Unit × fST) := f_gd (f_ib a1 16) (f_gd (decide (f_gR z (f_ix a1) < 16)) (f_it (b_be_takeOff_19) 2000 ((f_gR z (f_ix a1)), a1, f_pI z 11 0 1 ((f_gI z 11 0 1) - 1))))
def F_b_intoBin (a1 : Int32) (z : fST) : Option (Int32 × fST) := f_gd (f_ib a1 16) (f_gd (decide (f_gR z (f_ix a1) < 16)) (if (f_gI z 13 (f_gR z (f_ix a1)) 7) = ((-1)) then (some (0, z)) else (f_bd (F_jo_write z) (fun v4 z4 => if v4 = 0 then (some (0, z4)) else (f_gd (f_ib (f_gI z 13 (f_gR z (f_ix a1)) 7) 40) (f_gd (f_ib (f_gI z4 4 0 (f_ix (f_gI z 13 (f_gR z (f_ix a1)) 7))) 3) (f_gd (f_ib (f_gI z4 4 0 (f_ix (f_gI z 13 (f_gR z (f_ix a1)) 7))) 3) (f_bd (F_be_takeOff a1 (f_pI z4 17 0 (f_ix (f_gI z4 4 0 (f_ix (f_gI z 13 (f_gR z (f_ix a1)) 7)))) ((f_gI z4 17 0 (f_ix (f_gI z4 4 0 (f_ix (f_gI z 13 (f_gR z (f_ix a1)) 7))))) + 1))) (fun v9 z9 => some (1, f_pI z9 0 0 11 0))))))))))
def F_b_leavesOnArrival (a1 : Int32) (z : fST) : Option (Int32 × fST) := f_gd (f_ib a1 16) (f_gd (decide (f_gR z (f_ix a1) < 16)) (f_bd (F_co_rear (f_gR z (f_ix a1)) z) (fun v3 z3 => if v3 = 60 then (f_bd (F_b_judge (f_gR z (f_ix a1)) z3) (fun v11 z11 => some (0, z11))) else (if (f_gI z3 13 (f_gR z (f_ix a1)) 4) = 105 then (f_bd (F_b_pay (f_gR z (f_ix a1)) z3) (fun v10 z10 => some (0, z10))) else (f_bd (F_co_rear (f_gR z (f_ix a1)) z3) (fun v6 z6 => if v6 = 110 then (f_bd (F_b_intoBin a1 z6) (fun v8 z8 => f_gd (f_bz v8) (some (v8, z8)))) else (some (0, z6))))))))
def b_b_stepForward_42 (k17 : Int32 × Int32 × fST → Option (Unit × fST)) (x1 : Int32) (x2 : Int32) (z : fST) : Option (Unit × fST) := k17 (x1, (x2 + (-1)), z)
def b_b_stepForward_17  (k17 : Int32 × Int32 × fST → Option (Unit × fST)) (v : Int32 × Int32 × fST) : Option (Unit × fST) := match v with
  | (x1, x2, z) => if x2 ≤ 0 then (some ((()), z)) else (if (f_gI z 23 0 2) = 0 then (some ((()), z)) else (f_bd (F_b_leavesOnArrival x1 z) (fun v4 z4 => if v4 = 0 then (b_b_stepForward_42 k17 (x1 + 1) x2 z4) else (b_b_stepForward_42 k17 x1 x2 z4))))
def F_b_stepForward (z : fST) : Option (Unit × fST) := f_bd (F_be_moveUp z) (fun v1 z1 => f_it (b_b_stepForward_17) 2000 (0, (f_gI z1 11 0 1), z1))
def b_b_forward_17  (k17 : Int32 × Int32 × fST → Option ((Int32 ⊕ Nat) × fST)) (v : Int32 × Int32 × fST) : Option ((Int32 ⊕ Nat) × fST) := match v with
  | (x1, x2, z) => if x1 ≤ x2 then (some (.inl x2, z)) else (if (f_gI z 23 0 2) = 0 then (some (.inl x2, z)) else (f_bd (F_be_isBlocked z) (fun v6 z6 => if v6 = 0 then (f_bd (F_b_stepForward z6) (fun v8 z8 => k17 (x1, (x2 + 1), z8))) else (some (.inl x2, z6)))))
def F_b_forward (a1 : Int32) (z : fST) : Option ((Int32 ⊕ Nat) × fST) := f_bx (F_b_requireOn z) (fun v1 z1 => f_bd (F_b_isWithin a1 0 300 z1) (fun v2 z2 => f_bx (F_b_require v2 z2) (fun v3 z3 => f_it (b_b_forward_17) 2000 (a1, 0, z3)) (fun v3 z3 => some (.inr v3, z3)))) (fun v1 z1 => some (.inr v1, z1))
def b_be_moveDownAt_30 (x1 : Int32) (x2 : Nat) (z : fST) : Option (Unit × fST) := if 0 ≤ (f_gI z 13 x2 4) then (some ((()), z)) else (f_bd (F_be_takeOff x1 z) (fun v7 z7 => some ((()), z7)))
def F_be_moveDownAt (a1 : Int32) (z : fST) : Option (Unit × fST) := f_gd (f_ib a1 16) (f_gd (decide (f_gR z (f_ix a1) < 16)) (f_bd (F_co_rear (f_gR z (f_ix a1)) (f_pI z 13 (f_gR z (f_ix a1)) 4 ((f_gI z 13 (f_gR z (f_ix a1)) 4) - 1))) (fun v3 z3 => if v3 = 59 then (f_bd (F_co_forget (f_gR z (f_ix a1)) z3) (fun v5 z5 => b_be_moveDownAt_30 a1 (f_gR z (f_ix a1)) z5)) else (b_be_moveDownAt_30 a1 (f_gR z (f_ix a1)) z3))))
def b_be_moveDown_34 (k9 : Int32 × Int32 × fST → Option (Int32 × fST)) (x1 : Int32) (x2 : Int32) (z : fST) : Option (Int32 × fST) := k9 (x1, (x2 + (-1)), z)
def b_be_moveDown_9  (k9 : Int32 × Int32 × fST → Option (Int32 × fST)) (v : Int32 × Int32 × fST) : Option (Int32 × fST) := match v with
  | (x1, x2, z) => if x2 < 0 then (f_gd (f_bz x1) (some (x1, z))) else (f_gd (f_ib x2 16) (f_gd (decide (f_gR z (f_ix x2) < 16)) (if 105 ≤ (f_gI z 13 (f_gR z (f_ix x2)) 4) then (b_be_moveDown_34 k9 x1 x2 z) else (f_bd (F_be_moveDownAt x2 z) (fun v6 z6 => b_be_moveDown_34 k9 1 x2 z6)))))
def F_be_moveDown (z : fST) : Option (Int32 × fST) := f_it (b_be_moveDown_9) 2000 (0, ((f_gI z 11 0 1) - 1), z)
def b_b_back_50 (k25 : Int32 × Int32 × Int32 × fST → Option ((Int32 ⊕ Nat) × fST)) (x1 : Int32) (x2 : Int32) (x3 : Int32) (z : fST) : Option ((Int32 ⊕ Nat) × fST) := k25 (x1, x2, (x3 + 1), z)
def b_b_back_25  (k25 : Int32 × Int32 × Int32 × fST → Option ((Int32 ⊕ Nat) × fST)) (v : Int32 × Int32 × Int32 × fST) : Option ((Int32 ⊕ Nat) × fST) := match v with
  | (x1, x2, x3, z) => if x1 ≤ x3 then (some (.inl (x2 - (f_gI z 11 0 1)), z)) else (f_bd (F_be_moveDown z) (fun v5 z5 => if v5 = 0 then (b_b_back_50 k25 x1 x2 x3 z5) else (b_b_back_50 k25 x1 x2 x3 (f_pI z5 0 0 11 ((f_gI z5 0 0 11) + 1)))))
def F_b_back (a1 : Int32) (z : fST) : Option ((Int32 ⊕ Nat) × fST) := f_bx (F_b_requireOn z) (fun v1 z1 => f_bd (F_b_isWithin a1 0 300 z1) (fun v2 z2 => f_bx (F_b_require v2 z2) (fun v3 z3 => f_it (b_b_back_25) 2000 (a1, (f_gI z3 11 0 1), 0, z3)) (fun v3 z3 => some (.inr v3, z3)))) (fun v1 z1 => some (.inr v1, z1))
def F_vo_keep (a1 : Int32) (a2 : Int32) (a3 : Int32) (z : fST) : Option (Unit × fST) := f_gd (f_ib (f_gI z 19 0 3) 60) (f_gd (f_ib (f_gI (f_pI z 20 0 (f_ix (f_gI z 19 0 3)) a1) 19 0 3) 60) (f_gd (f_ib (f_gI (f_pI (f_pI z 20 0 (f_ix (f_gI z 19 0 3)) a1) 21 0 (f_ix (f_gI (f_pI z 20 0 (f_ix (f_gI z 19 0 3)) a1) 19 0 3)) a2) 19 0 3) 60) (f_gd (f_bz a3) (some ((()), f_pI (f_pI (f_pI (f_pI z 20 0 (f_ix (f_gI z 19 0 3)) a1) 21 0 (f_ix (f_gI (f_pI z 20 0 (f_ix (f_gI z 19 0 3)) a1) 19 0 3)) a2) 22 0 (f_ix (f_gI (f_pI (f_pI z 20 0 (f_ix (f_gI z 19 0 3)) a1) 21 0 (f_ix (f_gI (f_pI z 20 0 (f_ix (f_gI z 19 0 3)) a1) 19 0 3)) a2) 19 0 3)) a3) 19 0 3 ((f_gI (f_pI (f_pI (f_pI z 20 0 (f_ix (f_gI z 19 0 3)) a1) 21 0 (f_ix (f_gI (f_pI z 20 0 (f_ix (f_gI z 19 0 3)) a1) 19 0 3)) a2) 22 0 (f_ix (f_gI (f_pI (f_pI z 20 0 (f_ix (f_gI z 19 0 3)) a1) 21 0 (f_ix (f_gI (f_pI z 20 0 (f_ix (f_gI z 19 0 3)) a1) 19 0 3)) a2) 19 0 3)) a3) 19 0 3) + 1))))))
def F_vo_issue (a1 : Int32) (z : fST) : Option (Int32 × fST) := f_bd (F_vo_keep (f_gI (f_pI z 19 0 4 ((f_gI z 19 0 4) + 1)) 19 0 4) a1 0 (f_pI z 19 0 4 ((f_gI z 19 0 4) + 1))) (fun v1 z1 => some ((f_gI (f_pI z1 19 0 5 ((f_gI z1 19 0 5) + a1)) 19 0 4), f_pI z1 19 0 5 ((f_gI z1 19 0 5) + a1)))
def F_b_voucher (z : fST) : Option ((Int32 ⊕ Nat) × fST) := f_bx (F_b_requireOn z) (fun v1 z1 => if (f_gI z1 0 0 7) = 0 then (some (.inl 0, z1)) else (f_bd (F_vo_isFull z1) (fun v3 z3 => if v3 = 0 then (f_bd (F_jo_write z3) (fun v5 z5 => if v5 = 0 then (some (.inl 0, z5)) else (f_bd (F_vo_issue (f_gI z5 0 0 7) z5) (fun v7 z7 => some (.inl v7, f_pI z7 0 0 7 0))))) else (some (.inl 0, z3))))) (fun v1 z1 => some (.inr v1, z1))
def F_b_give (z : fST) : Option ((Int32 ⊕ Nat) × fST) := f_bx (F_b_requireOn z) (fun v1 z1 => if (f_gI z1 0 0 7) = 0 then (some (.inl 0, z1)) else (f_bd (F_jo_write z1) (fun v3 z3 => if v3 = 0 then (some (.inl 0, z3)) else (some (.inl (f_gI z3 0 0 7), f_pI (f_pI z3 0 0 10 ((f_gI z3 0 0 10) + (f_gI z3 0 0 7))) 0 0 7 0))))) (fun v1 z1 => some (.inr v1, z1))
def b_vo_placeOf_2  (k2 : Int32 × Int32 × fST → Option (Int32 × fST)) (v : Int32 × Int32 × fST) : Option (Int32 × fST) := match v with
  | (x1, x2, z) => if (f_gI z 19 0 3) ≤ x2 then (some (((-1)), z)) else (f_gd (f_ib x2 60) (if (f_gI z 20 0 (f_ix x2)) = x1 then (some (x2, z)) else (k2 (x1, (x2 + 1), z))))
def F_vo_placeOf (a1 : Int32) (z : fST) : Option (Int32 × fST) := f_it (b_vo_placeOf_2) 2000 (a1, 0, z)
def F_vo_payOut (a1 : Int32) (z : fST) : Option (Int32 × fST) := f_gd (f_ib a1 60) (if (f_gI z 22 0 (f_ix a1)) = 0 then (f_gd (f_ib a1 60) (f_gd (f_ib a1 60) (some ((f_gI (f_pI z 22 0 (f_ix a1) 1) 21 0 (f_ix a1)), f_pI z 22 0 (f_ix a1) 1)))) else (some (0, z)))
def F_b_redeem (a1 : Int32) (z : fST) : Option ((Int32 ⊕ Nat) × fST) := f_bx (F_b_requireOn z) (fun v1 z1 => f_bd (F_vo_placeOf a1 z1) (fun v2 z2 => f_bd (F_b_isIndex v2 (f_gI z2 19 0 3) z2) (fun v3 z3 => f_bx (F_b_require v3 z3) (fun v4 z4 => f_bd (F_vo_payOut v2 z4) (fun v5 z5 => some (.inl v5, z5))) (fun v4 z4 => some (.inr v4, z4))))) (fun v1 z1 => some (.inr v1, z1))
def b_vo_forgetRedeemed_43 (k12 : Int32 × Int32 × fST → Option (Int32 × fST)) (x1 : Int32) (x2 : Int32) (z : fST) : Option (Int32 × fST) := k12 (x1, (x2 + 1), z)
def b_vo_forgetRedeemed_12  (k12 : Int32 × Int32 × fST → Option (Int32 × fST)) (v : Int32 × Int32 × fST) : Option (Int32 × fST) := match v with
  | (x1, x2, z) => if x1 ≤ x2 then (some ((x1 - (f_gI z 19 0 3)), z)) else (f_gd (f_ib x2 60) (if (f_gI z 22 0 (f_ix x2)) = 0 then (f_gd (f_ib x2 60) (f_gd (f_ib x2 60) (f_bd (F_vo_keep (f_gI z 20 0 (f_ix x2)) (f_gI z 21 0 (f_ix x2)) 0 z) (fun v6 z6 => b_vo_forgetRedeemed_43 k12 x1 x2 z6)))) else (b_vo_forgetRedeemed_43 k12 x1 x2 z)))
def F_vo_forgetRedeemed (z : fST) : Option (Int32 × fST) := f_it (b_vo_forgetRedeemed_12) 2000 ((f_gI z 19 0 3), 0, f_pI z 19 0 3 0)
def F_b_clear (z : fST) : Option ((Int32 ⊕ Nat) × fST) := f_bx (F_b_requireOn z) (fun v1 z1 => f_bd (F_vo_forgetRedeemed z1) (fun v2 z2 => some (.inl v2, z2))) (fun v1 z1 => some (.inr v1, z1))
def F_b_empty (a1 : Int32) (a2 : Int32) (z : fST) : Option ((Int32 ⊕ Nat) × fST) := f_bx (F_b_requireOn z) (fun v1 z1 => f_bd (F_b_isIndex a1 3 z1) (fun v2 z2 => f_bx (F_b_require v2 z2) (fun v3 z3 => f_bd (F_b_isWithin a2 0 200 z3) (fun v4 z4 => f_bx (F_b_require v4 z4) (fun v5 z5 => f_gd (f_ib a1 3) (f_gd (f_ib a1 3) (f_gd (f_ib a1 3) (some (.inl (f_gI z5 17 0 (f_ix a1)), f_pI (f_pI z5 17 0 (f_ix a1) 0) 18 0 (f_ix a1) a2))))) (fun v5 z5 => some (.inr v5, z5)))) (fun v3 z3 => some (.inr v3, z3)))) (fun v1 z1 => some (.inr v1, z1))
def F_b_service (z : fST) : Option ((Int32 ⊕ Nat) × fST) := f_bx (F_b_requireOn z) (fun v1 z1 => f_bx (F_b_requireEmptyBelt z1) (fun v2 z2 => f_bd (F_b_isSuspicious z2) (fun v3 z3 => f_gd (f_bz v3) (some (.inl v3, f_pI z3 0 0 11 0)))) (fun v2 z2 => some (.inr v2, z2))) (fun v1 z1 => some (.inr v1, z1))
def F_b_cut (a1 : Int32) (z : fST) : Option ((Unit ⊕ Nat) × fST) := f_bd (F_b_isWithin a1 0 1000 z) (fun v1 z1 => f_bx (F_b_require v1 z1) (fun v2 z2 => some (.inl (()), f_pI z2 23 0 1 a1)) (fun v2 z2 => some (.inr v2, z2)))
def b_be_forgetBefore_32 (k2 : Int32 × Int32 × fST → Option (Unit × fST)) (x1 : Int32) (x2 : Int32) (z : fST) : Option (Unit × fST) := k2 (x1, (x2 + 1), z)
def b_be_forgetBefore_2  (k2 : Int32 × Int32 × fST → Option (Unit × fST)) (v : Int32 × Int32 × fST) : Option (Unit × fST) := match v with
  | (x1, x2, z) => if (f_gI z 11 0 1) ≤ x2 then (some ((()), z)) else (f_gd (f_ib x2 16) (f_gd (decide (f_gR z (f_ix x2) < 16)) (if x1 ≤ (f_gI z 13 (f_gR z (f_ix x2)) 4) then (b_be_forgetBefore_32 k2 x1 x2 z) else (f_gd (f_ib x2 16) (f_gd (decide (f_gR z (f_ix x2) < 16)) (f_bd (F_co_forget (f_gR z (f_ix x2)) z) (fun v7 z7 => b_be_forgetBefore_32 k2 x1 x2 z7)))))))
def F_be_forgetBefore (a1 : Int32) (z : fST) : Option (Unit × fST) := f_it (b_be_forgetBefore_2) 2000 (a1, 0, z)
def b_b_payUnpaid_54 (k2 : Int32 × fST → Option (Unit × fST)) (x1 : Int32) (z : fST) : Option (Unit × fST) := k2 ((x1 + 1), z)
def b_b_payUnpaid_2  (k2 : Int32 × fST → Option (Unit × fST)) (v : Int32 × fST) : Option (Unit × fST) := match v with
  | (x1, z) => if (f_gI z 11 0 1) ≤ x1 then (some ((()), z)) else (if (f_gI z 23 0 2) = 0 then (some ((()), z)) else (f_gd (f_ib x1 16) (f_gd (decide (f_gR z (f_ix x1) < 16)) (if (f_gI z 13 (f_gR z (f_ix x1)) 4) < 105 then (b_b_payUnpaid_54 k2 x1 z) else (if (f_gI z 13 (f_gR z (f_ix x1)) 8) = 0 then (f_bd (F_b_pay (f_gR z (f_ix x1)) z) (fun v7 z7 => b_b_payUnpaid_54 k2 x1 z7)) else (b_b_payUnpaid_54 k2 x1 z))))))
def F_b_payUnpaid (z : fST) : Option (Unit × fST) := f_it (b_b_payUnpaid_2) 2000 (0, z)
def b_b_binWaiting_62 (k10 : Int32 × Int32 × fST → Option (Unit × fST)) (x1 : Int32) (x2 : Int32) (z : fST) : Option (Unit × fST) := k10 (x1, (x2 + (-1)), z)
def b_b_binWaiting_59 (k10 : Int32 × Int32 × fST → Option (Unit × fST)) (x1 : Int32) (x2 : Int32) (z : fST) : Option (Unit × fST) := b_b_binWaiting_62 k10 (x1 + 1) x2 z
def b_b_binWaiting_46 (k10 : Int32 × Int32 × fST → Option (Unit × fST)) (x1 : Int32) (x2 : Int32) (y0 : Int32) (z : fST) : Option (Unit × fST) := if y0 = 0 then (b_b_binWaiting_59 k10 x1 x2 z) else (f_bd (F_b_intoBin x1 z) (fun v8 z8 => if v8 = 0 then (b_b_binWaiting_59 k10 x1 x2 z8) else (b_b_binWaiting_62 k10 x1 x2 z8)))
def b_b_binWaiting_10  (k10 : Int32 × Int32 × fST → Option (Unit × fST)) (v : Int32 × Int32 × fST) : Option (Unit × fST) := match v with
  | (x1, x2, z) => if x2 ≤ 0 then (some ((()), z)) else (if (f_gI z 23 0 2) = 0 then (some ((()), z)) else (f_gd (f_ib x1 16) (f_gd (decide (f_gR z (f_ix x1) < 16)) (f_bd (F_co_rear (f_gR z (f_ix x1)) z) (fun v5 z5 => if v5 < 110 then (b_b_binWaiting_46 k10 x1 x2 0 z5) else (b_b_binWaiting_46 k10 x1 x2 1 z5))))))
def F_b_binWaiting (z : fST) : Option (Unit × fST) := f_it (b_b_binWaiting_10) 2000 (0, (f_gI z 11 0 1), z)
def F_b_power (z : fST) : Option (Int32 × fST) := if (f_gI z 23 0 2) = 0 then (f_bd (F_be_forgetBefore 105 (f_pI z 23 0 2 1)) (fun v2 z2 => f_bd (F_b_payUnpaid z2) (fun v3 z3 => f_bd (F_b_binWaiting z3) (fun v4 z4 => some (((f_gI z4 23 0 0) - (f_gI z 23 0 0)), z4))))) else (some (((-1)), z))
def F_b_check (a1 : Int32) (a2 : Int32) (z : fST) : Option ((Int32 ⊕ Nat) × fST) := f_bd (F_b_isWithin a1 0 99999999 z) (fun v1 z1 => f_bx (F_b_require v1 z1) (fun v2 z2 => f_bd (F_b_isWithin a2 0 99999999 z2) (fun v3 z3 => f_bx (F_b_require v3 z3) (fun v4 z4 => if ((a2 / 100) - (a2 / 100) / 100 * 100) = 37 then (if (lg_cmp (((a1.toInt64 * 100000000) + a2.toInt64) - ((a1.toInt64 * 100000000) + a2.toInt64) / 97 * 97) 1) = 0 then (some (.inl 1, z4)) else (some (.inl 0, z4))) else (some (.inl 0, z4))) (fun v4 z4 => some (.inr v4, z4)))) (fun v2 z2 => some (.inr v2, z2)))
def F_vo_firstDigits (a1 : Int32) (z : fST) : Option (Int32 × fST) := f_gd (f_ib a1 60) (f_gd (f_ib a1 60) (some ((((f_gI z 20 0 (f_ix a1)) * 100) + ((f_gI z 21 0 (f_ix a1)) / 10000)), z)))
def F_vo_lastDigits (a1 : Int32) (z : fST) : Option (Int32 × fST) := f_gd (f_ib a1 60) (f_bd (F_vo_firstDigits a1 z) (fun v2 z2 => some ((((((((f_gI z 21 0 (f_ix a1)) - (f_gI z 21 0 (f_ix a1)) / 10000 * 10000) * 10000) + 3700) + 97) + 1) - ((((v2.toInt64 * 100000000) + (((((f_gI z 21 0 (f_ix a1)) - (f_gI z 21 0 (f_ix a1)) / 10000 * 10000) * 10000) + 3700).toInt64)) - ((v2.toInt64 * 100000000) + (((((f_gI z 21 0 (f_ix a1)) - (f_gI z 21 0 (f_ix a1)) / 10000 * 10000) * 10000) + 3700).toInt64)) / 97 * 97).toInt32)), z2)))
def F_b_asNumber (a0 : Int32) (z : fST) : Option (Int32 × fST) := if a0 = 0 then (some (0, z)) else (some (1, z))
def F_b_about (a1 : Int32) (a2 : Int32) (z : fST) : Option ((Int32 ⊕ Nat) × fST) := f_bd (F_vo_placeOf a1 z) (fun v1 z1 => f_bd (F_b_isIndex v1 (f_gI z1 19 0 3) z1) (fun v2 z2 => f_bx (F_b_require v2 z2) (fun v3 z3 => if a2 = 0 then (f_gd (f_ib v1 60) (some (.inl (f_gI z3 21 0 (f_ix v1)), z3))) else (if a2 = 1 then (f_bd (F_vo_firstDigits v1 z3) (fun v9 z9 => some (.inl v9, z9))) else (if a2 = 2 then (f_bd (F_vo_lastDigits v1 z3) (fun v11 z11 => some (.inl v11, z11))) else (if a2 = 3 then (f_gd (f_ib v1 60) (f_bd (F_b_asNumber (f_gI z3 22 0 (f_ix v1)) z3) (fun v14 z14 => some (.inl v14, z14)))) else (some (.inr 2, z3)))))) (fun v3 z3 => some (.inr v3, z3))))
def b_be_withNumber_2  (k2 : Int32 × Int32 × fST → Option (Option Nat × fST)) (v : Int32 × Int32 × fST) : Option (Option Nat × fST) := match v with
  | (x1, x2, z) => if (f_gI z 11 0 1) ≤ x2 then (some (none, z)) else (f_gd (f_ib x2 16) (f_gd (decide (f_gR z (f_ix x2) < 16)) (if (f_gI z 13 (f_gR z (f_ix x2)) 2) = x1 then (f_gd (f_ib x2 16) (f_gd (decide (f_gR z (f_ix x2) < 16)) (some ((some (f_gR z (f_ix x2))), z)))) else (k2 (x1, (x2 + 1), z)))))
def F_be_withNumber (a1 : Int32) (z : fST) : Option (Option Nat × fST) := f_it (b_be_withNumber_2) 2000 (a1, 0, z)
def F_b_container (a1 : Int32) (a2 : Int32) (z : fST) : Option ((Int32 ⊕ Nat) × fST) := f_bd (F_be_withNumber a1 z) (fun v1 z1 => f_cz v1 (some (.inr 2, z1)) (fun i1 => f_gd (decide (i1 < 16)) (if a2 = 0 then (some (.inl (f_gI z1 13 i1 4), z1)) else (if a2 = 1 then (some (.inl (f_gI z1 13 i1 3), z1)) else (if a2 = 2 then (some (.inl (f_gI z1 13 i1 6), z1)) else (if a2 = 3 then (some (.inl (f_gI z1 13 i1 7), z1)) else (if a2 = 4 then (f_bd (F_b_asNumber (f_gI z1 13 i1 8) z1) (fun v9 z9 => some (.inl v9, z9))) else (if a2 = 5 then (some (.inl (f_gI z1 14 i1 1), z1)) else (if a2 = 6 then (some (.inl (f_gI z1 14 (i1 + 16) 1), z1)) else (some (.inr 2, z1)))))))))))
def F_b_belt (a1 : Int32) (z : fST) : Option (Int32 × fST) := f_bd (F_b_isIndex a1 (f_gI z 11 0 1) z) (fun v1 z1 => if v1 = 0 then (some (((-1)), z1)) else (f_gd (f_ib a1 16) (f_gd (decide (f_gR z1 (f_ix a1) < 16)) (some ((f_gI z1 13 (f_gR z1 (f_ix a1)) 2), z1)))))
def F_b_bin (a1 : Int32) (a2 : Int32) (z : fST) : Option ((Int32 ⊕ Nat) × fST) := f_bd (F_b_isIndex a1 3 z) (fun v1 z1 => f_bx (F_b_require v1 z1) (fun v2 z2 => f_bd (F_b_isWithin a2 0 1 z2) (fun v3 z3 => f_bx (F_b_require v3 z3) (fun v4 z4 => if a2 = 0 then (f_gd (f_ib a1 3) (some (.inl (f_gI z4 17 0 (f_ix a1)), z4))) else (f_gd (f_ib a1 3) (some (.inl (f_gI z4 18 0 (f_ix a1)), z4)))) (fun v4 z4 => some (.inr v4, z4)))) (fun v2 z2 => some (.inr v2, z2)))
def F_b_total (a1 : Int32) (z : fST) : Option ((Int32 ⊕ Nat) × fST) := f_bd (F_b_isWithin a1 1 9 z) (fun v1 z1 => if v1 = 0 then (if a1 = 0 then (some (.inl (f_gI z1 0 0 7), z1)) else (if a1 = 10 then (some (.inl (f_gI z1 0 0 8), z1)) else (if a1 = 11 then (some (.inl (f_gI z1 0 0 9), z1)) else (if a1 = 12 then (some (.inl (f_gI z1 19 0 5), z1)) else (if a1 = 13 then (some (.inl (f_gI z1 0 0 10), z1)) else (if a1 = 14 then (some (.inl (f_gI z1 19 0 3), z1)) else (if a1 = 15 then (some (.inl (f_gI z1 11 0 1), z1)) else (if a1 = 16 then (f_bd (F_b_asNumber (f_gI z1 23 0 2) z1) (fun v13 z13 => some (.inl v13, z13))) else (if a1 = 17 then (f_bd (F_be_isBlocked z1) (fun v15 z15 => f_bd (F_b_asNumber v15 z15) (fun v16 z16 => some (.inl v16, z16)))) else (if a1 = 18 then (f_bd (F_b_isSuspicious z1) (fun v18 z18 => f_bd (F_b_asNumber v18 z18) (fun v19 z19 => some (.inl v19, z19)))) else (if a1 = 19 then (some (.inl (f_gI z1 23 0 0), z1)) else (if a1 = 20 then (some (.inl (f_gI z1 23 0 1), z1)) else (some (.inr 2, z1)))))))))))))) else (f_gd (f_ib a1 10) (some (.inl (f_gI z1 26 0 (f_ix a1)), z1))))
end
section
/-! the reference, as pure functions of the flat memory: written by program out of the bytecode -/
def F_m_thrown (z : fST) : Option (Int32 × fST) := some ((f_gI z 30 0 25), z)
def F_m_fails (a1 : Int32) (a2 : Int32) (z : fST) : Option (Int32 × fST) := if a1 = 0 then (f_gd (f_bz a1) (some (a1, f_pI z 30 0 25 0))) else (f_gd (f_bz a1) (some (a1, f_pI z 30 0 25 a2)))
def F_m_within (a0 : Int32) (a1 : Int32) (a2 : Int32) (z : fST) : Option (Int32 × fST) := if a0 < a1 then (some (0, z)) else (if a2 < a0 then (some (0, z)) else (some (1, z)))
def F_m_get (a1 : Int32) (a2 : Int32) (z : fST) : Option (Int32 × fST) := f_gd (f_ib ((20 * a1) + a2) 1200) (some ((f_gI z 34 0 (f_ix ((20 * a1) + a2))), z))
def F_m_put (a1 : Int32) (a2 : Int32) (a3 : Int32) (z : fST) : Option (Unit × fST) := f_gd (f_ib ((20 * a1) + a2) 1200) (some ((()), f_pI z 34 0 (f_ix ((20 * a1) + a2)) a3))
def F_m_rear (a1 : Int32) (z : fST) : Option (Int32 × fST) := f_bd (F_m_get a1 2 z) (fun v1 z1 => f_bd (F_m_get a1 1 z1) (fun v2 z2 => some ((v1 - v2), z2)))
def b_m_remove_15  (k15 : Int32 × fST → Option (Unit × fST)) (v : Int32 × fST) : Option (Unit × fST) := match v with
  | (x2, z) => if (20 * (f_gI z 30 0 4)) ≤ x2 then (some ((()), z)) else (f_gd (f_ib (x2 + 20) 1200) (f_gd (f_ib x2 1200) (k15 ((x2 + 1), f_pI z 34 0 (f_ix x2) (f_gI z 34 0 (f_ix (x2 + 20)))))))
def F_m_remove (a1 : Int32) (z : fST) : Option (Unit × fST) := f_it (b_m_remove_15) 2000 ((20 * a1), f_pI z 30 0 4 ((f_gI z 30 0 4) - 1))
def b_m_find_2  (k2 : Int32 × Int32 × fST → Option (Int32 × fST)) (v : Int32 × Int32 × fST) : Option (Int32 × fST) := match v with
  | (x1, x2, z) => if (f_gI z 30 0 4) ≤ x2 then (some (((-1)), z)) else (f_bd (F_m_get x2 0 z) (fun v2 z2 => if v2 = x1 then (some (x2, z2)) else (k2 (x1, (x2 + 1), z2))))
def F_m_find (a1 : Int32) (z : fST) : Option (Int32 × fST) := f_it (b_m_find_2) 2000 (a1, 0, z)
def b_m_contour_80 (k51 : Int32 × Int32 × Int32 × Int32 × Int32 × fST → Option (Unit × fST)) (x1 : Int32) (x2 : Int32) (x3 : Int32) (x4 : Int32) (x5 : Int32) (y1 : Int32) (y2 : Int32) (z : fST) : Option (Unit × fST) := f_gd (f_ib y1 64) (k51 (x1, x2, x3, x4, (x5 + 1), f_pI z 31 0 (f_ix y1) ((y2 >>> ((24 - (8 * (x5 - x5 / 4 * 4))) &&& 31)) &&& 255)))
def b_m_contour_51  (k51 : Int32 × Int32 × Int32 × Int32 × Int32 × fST → Option (Unit × fST)) (v : Int32 × Int32 × Int32 × Int32 × Int32 × fST) : Option (Unit × fST) := match v with
  | (x1, x2, x3, x4, x5, z) => if 8 ≤ x5 then (f_gd (f_ib x1 8) (some ((()), f_pI z 32 0 (f_ix x1) x4))) else (if 4 ≤ x5 then (b_m_contour_80 k51 x1 x2 x3 x4 x5 ((8 * x1) + x5) x3 z) else (b_m_contour_80 k51 x1 x2 x3 x4 x5 ((8 * x1) + x5) x2 z))
def b_m_contour_40 (x1 : Int32) (x2 : Int32) (x3 : Int32) (x4 : Int32) (y1 : Int32) (z : fST) : Option (Unit × fST) := f_bd (F_m_fails y1 2 z) (fun v7 z7 => if v7 = 0 then (f_it (b_m_contour_51) 2000 (x1, x2, x3, x4, 0, z7)) else (some ((()), z7)))
def b_m_contour_35 (x1 : Int32) (x2 : Int32) (x3 : Int32) (x4 : Int32) (z : fST) : Option (Unit × fST) := b_m_contour_40 x1 x2 x3 x4 1 z
def F_m_contour (a1 : Int32) (a2 : Int32) (a3 : Int32) (a4 : Int32) (z : fST) : Option (Unit × fST) := f_bd (F_m_fails (f_gI z 30 0 17) 1 z) (fun v1 z1 => if v1 = 0 then (f_bd (F_m_within a1 0 7 z1) (fun v3 z3 => if v3 = 0 then (b_m_contour_35 a1 a2 a3 a4 z3) else (f_bd (F_m_within a4 0 2040 z3) (fun v5 z5 => if v5 = 0 then (b_m_contour_35 a1 a2 a3 a4 z5) else (b_m_contour_40 a1 a2 a3 a4 0 z5))))) else (some ((()), z1)))
def b_m_kindOf_2  (k2 : Int32 × Int32 × fST → Option (Int32 × fST)) (v : Int32 × Int32 × fST) : Option (Int32 × fST) := match v with
  | (x1, x2, z) => if 40 ≤ x2 then (some (((-1)), z)) else (f_gd (f_ib (6 * x2) 240) (if (f_gI z 33 0 (f_ix (6 * x2))) = x1 then (some (x2, z)) else (k2 (x1, (x2 + 1), z))))
def F_m_kindOf (a1 : Int32) (z : fST) : Option (Int32 × fST) := f_it (b_m_kindOf_2) 2000 (a1, 0, z)
def b_m_kind_161 (x1 : Int32) (x2 : Int32) (x3 : Int32) (x4 : Int32) (x5 : Int32) (x6 : Int32) (x7 : Int32) (x9 : Int32) (z : fST) : Option (Int32 × fST) := f_gd (f_ib (6 * x1) 240) (f_gd (f_ib ((6 * x1) + 1) 240) (f_gd (f_ib ((6 * x1) + 2) 240) (f_gd (f_ib ((6 * x1) + 3) 240) (f_gd (f_ib ((6 * x1) + 4) 240) (f_gd (f_ib ((6 * x1) + 5) 240) (some (x9, f_pI (f_pI (f_pI (f_pI (f_pI (f_pI z 33 0 (f_ix (6 * x1)) x2) 33 0 (f_ix ((6 * x1) + 1)) x3) 33 0 (f_ix ((6 * x1) + 2)) x4) 33 0 (f_ix ((6 * x1) + 3)) x5) 33 0 (f_ix ((6 * x1) + 4)) x6) 33 0 (f_ix ((6 * x1) + 5)) x7)))))))
def b_m_kind_128 (x1 : Int32) (x2 : Int32) (x3 : Int32) (x4 : Int32) (x5 : Int32) (x6 : Int32) (x7 : Int32) (y1 : Int32) (z : fST) : Option (Int32 × fST) := f_bd (F_m_fails y1 2 z) (fun v21 z21 => if v21 = 0 then (f_bd (F_m_kindOf x2 z21) (fun v23 z23 => if v23 = ((-1)) then (b_m_kind_161 x1 x2 x3 x4 x5 x6 x7 v23 z23) else (f_gd (f_ib (6 * v23) 240) (b_m_kind_161 x1 x2 x3 x4 x5 x6 x7 v23 (f_pI z23 33 0 (f_ix (6 * v23)) 0))))) else (some (0, z21)))
def b_m_kind_110 (x1 : Int32) (x2 : Int32) (x3 : Int32) (x4 : Int32) (x5 : Int32) (x6 : Int32) (x7 : Int32) (x8 : Int32) (y1 : Int32) (z : fST) : Option (Int32 × fST) := f_bd (F_m_fails y1 1 z) (fun v18 z18 => if v18 = 0 then (if x8 = 0 then (b_m_kind_128 x1 x2 x3 x4 x5 x6 x7 1 z18) else (b_m_kind_128 x1 x2 x3 x4 x5 x6 x7 0 z18)) else (some (0, z18)))
def b_m_kind_105 (x1 : Int32) (x2 : Int32) (x3 : Int32) (x4 : Int32) (x5 : Int32) (x6 : Int32) (x7 : Int32) (x8 : Int32) (z : fST) : Option (Int32 × fST) := b_m_kind_110 x1 x2 x3 x4 x5 x6 x7 x8 1 z
def b_m_kind_88 (x1 : Int32) (x2 : Int32) (x3 : Int32) (x4 : Int32) (x5 : Int32) (x6 : Int32) (x7 : Int32) (y0 : Int32) (z : fST) : Option (Int32 × fST) := if (f_gI z 30 0 17) = 0 then (if (f_gI z 30 0 4) ≤ 0 then (b_m_kind_110 x1 x2 x3 x4 x5 x6 x7 y0 0 z) else (b_m_kind_105 x1 x2 x3 x4 x5 x6 x7 y0 z)) else (b_m_kind_105 x1 x2 x3 x4 x5 x6 x7 y0 z)
def b_m_kind_87 (x1 : Int32) (x2 : Int32) (x3 : Int32) (x4 : Int32) (x5 : Int32) (x6 : Int32) (x7 : Int32) (z : fST) : Option (Int32 × fST) := b_m_kind_88 x1 x2 x3 x4 x5 x6 x7 0 z
def F_m_kind (a1 : Int32) (a2 : Int32) (a3 : Int32) (a4 : Int32) (a5 : Int32) (a6 : Int32) (a7 : Int32) (z : fST) : Option (Int32 × fST) := f_bd (F_m_within a1 0 39 z) (fun v1 z1 => if v1 = 0 then (b_m_kind_87 a1 a2 a3 a4 a5 a6 a7 z1) else (f_bd (F_m_within a2 1 999999 z1) (fun v3 z3 => if v3 = 0 then (b_m_kind_87 a1 a2 a3 a4 a5 a6 a7 z3) else (f_bd (F_m_within a3 1 500 z3) (fun v5 z5 => if v5 = 0 then (b_m_kind_87 a1 a2 a3 a4 a5 a6 a7 z5) else (f_bd (F_m_within a4 0 2 z5) (fun v7 z7 => if v7 = 0 then (b_m_kind_87 a1 a2 a3 a4 a5 a6 a7 z7) else (f_bd (F_m_within a5 0 5000 z7) (fun v9 z9 => if v9 = 0 then (b_m_kind_87 a1 a2 a3 a4 a5 a6 a7 z9) else (f_bd (F_m_within a6 0 5000 z9) (fun v11 z11 => if v11 = 0 then (b_m_kind_87 a1 a2 a3 a4 a5 a6 a7 z11) else (if a6 < a5 then (b_m_kind_87 a1 a2 a3 a4 a5 a6 a7 z11) else (f_bd (F_m_within a7 0 7 z11) (fun v14 z14 => if v14 = 0 then (b_m_kind_87 a1 a2 a3 a4 a5 a6 a7 z14) else (b_m_kind_88 a1 a2 a3 a4 a5 a6 a7 1 z14)))))))))))))))
def b_m_enter_72  (k72 : Int32 × Int32 × fST → Option (Int32 × fST)) (v : Int32 × Int32 × fST) : Option (Int32 × fST) := match v with
  | (x1, x2, z) => if 20 ≤ x2 then (f_bd (F_m_put (f_gI z 30 0 4) 0 (f_gI z 30 0 5) z) (fun v11 z11 => f_bd (F_m_put (f_gI z11 30 0 4) 1 x1 z11) (fun v12 z12 => f_bd (F_m_put (f_gI z12 30 0 4) 4 ((-1)) z12) (fun v13 z13 => f_bd (F_m_put (f_gI z13 30 0 4) 6 ((-1)) z13) (fun v14 z14 => some ((f_gI (f_pI z14 30 0 4 ((f_gI z14 30 0 4) + 1)) 30 0 5), f_pI z14 30 0 4 ((f_gI z14 30 0 4) + 1))))))) else (f_bd (F_m_put (f_gI z 30 0 4) x2 0 z) (fun v15 z15 => k72 (x1, (x2 + 1), z15)))
def b_m_enter_60 (x1 : Int32) (z : fST) : Option (Int32 × fST) := f_it (b_m_enter_72) 2000 (x1, 0, f_pI z 30 0 5 ((f_gI z 30 0 5) + 1))
def b_m_enter_28 (x1 : Int32) (y1 : Int32) (z : fST) : Option (Int32 × fST) := f_bd (F_m_fails y1 2 z) (fun v5 z5 => if v5 = 0 then (if (f_gI z5 30 0 4) ≤ 0 then (b_m_enter_60 x1 z5) else (f_bd (F_m_rear ((f_gI z5 30 0 4) - 1) z5) (fun v8 z8 => if 4 ≤ v8 then (b_m_enter_60 x1 z8) else (some (0, z8))))) else (some (0, z5)))
def F_m_enter (a1 : Int32) (z : fST) : Option (Int32 × fST) := f_bd (F_m_fails (f_gI z 30 0 17) 1 z) (fun v1 z1 => if v1 = 0 then (f_bd (F_m_within a1 5 40 z1) (fun v3 z3 => if v3 = 0 then (b_m_enter_28 a1 1 z3) else (b_m_enter_28 a1 0 z3))) else (some (0, z1)))
def b_m_over_31 (k2 : Int32 × Int32 × fST → Option (Int32 × fST)) (x1 : Int32) (x2 : Int32) (z : fST) : Option (Int32 × fST) := k2 (x1, (x2 + 1), z)
def b_m_over_2  (k2 : Int32 × Int32 × fST → Option (Int32 × fST)) (v : Int32 × Int32 × fST) : Option (Int32 × fST) := match v with
  | (x1, x2, z) => if (f_gI z 30 0 4) ≤ x2 then (some (((-1)), z)) else (f_bd (F_m_rear x2 z) (fun v2 z2 => if x1 ≤ v2 then (b_m_over_31 k2 x1 x2 z2) else (f_bd (F_m_get x2 2 z2) (fun v4 z4 => if v4 < x1 then (b_m_over_31 k2 x1 x2 z4) else (some (x2, z4))))))
def F_m_over (a1 : Int32) (z : fST) : Option (Int32 × fST) := f_it (b_m_over_2) 2000 (a1, 0, z)
def b_m_code_28 (x1 : Int32) (y1 : Int32) (z : fST) : Option (Int32 × fST) := f_bd (F_m_fails y1 2 z) (fun v5 z5 => if v5 = 0 then (f_bd (F_m_over 15 z5) (fun v7 z7 => if v7 = ((-1)) then (some (0, z7)) else (f_bd (F_m_get v7 7 z7) (fun v9 z9 => if v9 = 3 then (some (0, z9)) else (f_bd (F_m_get v7 7 z9) (fun v11 z11 => f_bd (F_m_put v7 (9 + v11) x1 z11) (fun v12 z12 => f_bd (F_m_get v7 7 z12) (fun v13 z13 => f_bd (F_m_put v7 7 (v13 + 1) z13) (fun v14 z14 => some (1, z14)))))))))) else (some (0, z5)))
def F_m_code (a1 : Int32) (z : fST) : Option (Int32 × fST) := f_bd (F_m_fails (f_gI z 30 0 17) 1 z) (fun v1 z1 => if v1 = 0 then (f_bd (F_m_within a1 1 999999 z1) (fun v3 z3 => if v3 = 0 then (b_m_code_28 a1 1 z3) else (b_m_code_28 a1 0 z3))) else (some (0, z1)))
def b_m_width_29 (x1 : Int32) (y1 : Int32) (z : fST) : Option (Int32 × fST) := f_bd (F_m_fails y1 2 z) (fun v5 z5 => if v5 = 0 then (f_bd (F_m_over 30 z5) (fun v7 z7 => if v7 = ((-1)) then (some (0, z7)) else (f_bd (F_m_get v7 8 z7) (fun v9 z9 => if v9 = 8 then (some (0, z9)) else (f_bd (F_m_get v7 8 z9) (fun v11 z11 => f_bd (F_m_put v7 (12 + v11) x1 z11) (fun v12 z12 => f_bd (F_m_get v7 8 z12) (fun v13 z13 => f_bd (F_m_put v7 8 (v13 + 1) z13) (fun v14 z14 => some (1, z14)))))))))) else (some (0, z5)))
def F_m_width (a1 : Int32) (z : fST) : Option (Int32 × fST) := f_bd (F_m_fails (f_gI z 30 0 17) 1 z) (fun v1 z1 => if v1 = 0 then (f_bd (F_m_within a1 0 255 z1) (fun v3 z3 => if v3 = 0 then (b_m_width_29 a1 1 z3) else (b_m_width_29 a1 0 z3))) else (some (0, z1)))
def b_m_weigh_29 (x1 : Int32) (y1 : Int32) (z : fST) : Option (Int32 × fST) := f_bd (F_m_fails y1 2 z) (fun v5 z5 => if v5 = 0 then (f_bd (F_m_over 45 z5) (fun v7 z7 => if v7 = ((-1)) then (some (0, z7)) else (f_bd (F_m_put v7 6 x1 z7) (fun v9 z9 => some (1, z9))))) else (some (0, z5)))
def F_m_weigh (a1 : Int32) (z : fST) : Option (Int32 × fST) := f_bd (F_m_fails (f_gI z 30 0 17) 1 z) (fun v1 z1 => if v1 = 0 then (f_bd (F_m_within a1 0 5000 z1) (fun v3 z3 => if v3 = 0 then (b_m_weigh_29 a1 1 z3) else (b_m_weigh_29 a1 0 z3))) else (some (0, z1)))
def b_m_writes_37 (y1 : Int32) (y2 : Int32) (z : fST) : Option (Int32 × fST) := some (1, f_pI (f_pI z 30 0 18 (y1 - y2)) 30 0 19 ((f_gI (f_pI z 30 0 18 (y1 - y2)) 30 0 19) + 1))
def F_m_writes (z : fST) : Option (Int32 × fST) := if (f_gI z 30 0 18) = 1 then (some (0, f_pI (f_pI z 30 0 18 0) 30 0 17 1)) else (if (f_gI z 30 0 18) ≤ 0 then (b_m_writes_37 (f_gI z 30 0 18) 0 z) else (b_m_writes_37 (f_gI z 30 0 18) 1 z))
def b_m_isBlocked_34 (k2 : Int32 × fST → Option (Int32 × fST)) (x1 : Int32) (z : fST) : Option (Int32 × fST) := k2 ((x1 + 1), z)
def b_m_isBlocked_2  (k2 : Int32 × fST → Option (Int32 × fST)) (v : Int32 × fST) : Option (Int32 × fST) := match v with
  | (x1, z) => if (f_gI z 30 0 4) ≤ x1 then (some (0, z)) else (f_bd (F_m_get x1 2 z) (fun v2 z2 => if v2 = 104 then (f_bd (F_m_get x1 3 z2) (fun v4 z4 => if v4 = 10 then (b_m_isBlocked_34 k2 x1 z4) else (some (1, z4)))) else (b_m_isBlocked_34 k2 x1 z2)))
def F_m_isBlocked (z : fST) : Option (Int32 × fST) := f_it (b_m_isBlocked_2) 2000 (0, z)
def F_m_isSuspicious (z : fST) : Option (Int32 × fST) := if (f_gI z 30 0 16) ≤ 50 then (some (0, z)) else (some (1, z))
def b_m_against_410 (x7 : Int32) (z : fST) : Option (Int32 × fST) := if x7 = 0 then (some (0, z)) else (some (9, z))
def b_m_against_402 (k362 : Int32 × Int32 × Int32 × fST → Option (Int32 × fST)) (x1 : Int32) (x8 : Int32) (y0 : Int32) (z : fST) : Option (Int32 × fST) := k362 (x1, y0, (x8 + 1), z)
def b_m_against_362  (k362 : Int32 × Int32 × Int32 × fST → Option (Int32 × fST)) (v : Int32 × Int32 × Int32 × fST) : Option (Int32 × fST) := match v with
  | (x1, x7, x8, z) => if 24 ≤ x8 then (b_m_against_410  x7 z) else (if x7 = 0 then (b_m_against_410  x7 z) else (f_gd (f_ib x8 24) (f_bd (F_m_get x1 (12 + (x8 - x8 / 8 * 8)) z) (fun v45 z45 => if (f_gI z 40 0 (f_ix x8)) = v45 then (b_m_against_402 k362 x1 x8 1 z45) else (b_m_against_402 k362 x1 x8 0 z45)))))
def b_m_against_357 (x1 : Int32) (y0 : Int32) (z : fST) : Option (Int32 × fST) := f_it (b_m_against_362) 2000 (x1, y0, 0, z)
def b_m_against_298 (k248 : Int32 × Int32 × Int32 × Int32 × fST → Option (Int32 × fST)) (x1 : Int32) (x5 : Int32) (x7 : Int32) (y0 : Int32) (y1 : Int32) (z : fST) : Option (Int32 × fST) := k248 (x1, x5, (y0 + y1), (x7 + 1), z)
def b_m_against_297 (k248 : Int32 × Int32 × Int32 × Int32 × fST → Option (Int32 × fST)) (x1 : Int32) (x5 : Int32) (x7 : Int32) (y0 : Int32) (z : fST) : Option (Int32 × fST) := b_m_against_298 k248 x1 x5 x7 y0 0 z
def b_m_against_248  (k248 : Int32 × Int32 × Int32 × Int32 × fST → Option (Int32 × fST)) (v : Int32 × Int32 × Int32 × Int32 × fST) : Option (Int32 × fST) := match v with
  | (x1, x5, x6, x7, z) => if (f_gI z 30 0 4) ≤ x7 then (f_gd (f_ib x5 3) (if x6 < (f_gI z 36 0 (f_ix x5)) then (if (f_gI z 30 0 12) = 60 then (some (7, z)) else (f_bd (F_m_isSuspicious z) (fun v34 z34 => if v34 = 0 then (if (f_gI z34 30 0 15) < 3 then (b_m_against_357  x1 0 z34) else (b_m_against_357  x1 1 z34)) else (some (8, z34))))) else (some (6, z)))) else (f_bd (F_m_get x7 3 z) (fun v37 z37 => if v37 = 10 then (f_bd (F_m_get x7 4 z37) (fun v39 z39 => f_gd (f_ib ((6 * v39) + 2) 240) (if (f_gI z39 33 0 (f_ix ((6 * v39) + 2))) = x5 then (b_m_against_298 k248 x1 x5 x7 x6 1 z39) else (b_m_against_297 k248 x1 x5 x7 x6 z39)))) else (b_m_against_297 k248 x1 x5 x7 x6 z37)))
def b_m_against_189 (k137 : Int32 × Int32 × Int32 × Int32 × Int32 × fST → Option (Int32 × fST)) (x1 : Int32) (x2 : Int32) (x3 : Int32) (x5 : Int32) (y0 : Int32) (y1 : Int32) (z : fST) : Option (Int32 × fST) := k137 (x1, x2, x3, (y0 + y1), (x5 + 1), z)
def b_m_against_137  (k137 : Int32 × Int32 × Int32 × Int32 × Int32 × fST → Option (Int32 × fST)) (v : Int32 × Int32 × Int32 × Int32 × Int32 × fST) : Option (Int32 × fST) := match v with
  | (x1, x2, x3, x4, x5, z) => f_bd (F_m_get x1 8 z) (fun v19 z19 => if v19 ≤ x5 then (f_bd (F_m_get x1 8 z19) (fun v21 z21 => if v21 < 8 then (some (5, z21)) else (f_gd (f_ib x3 8) (if x4 ≤ (f_gI z21 32 0 (f_ix x3)) then (f_gd (f_ib ((6 * x2) + 2) 240) (f_gd (f_ib (f_gI z21 33 0 (f_ix ((6 * x2) + 2))) 3) (f_it (b_m_against_248) 2000 (x1, (f_gI z21 33 0 (f_ix ((6 * x2) + 2))), (f_gI z21 35 0 (f_ix (f_gI z21 33 0 (f_ix ((6 * x2) + 2))))), 0, z21)))) else (some (5, z21)))))) else (f_bd (F_m_get x1 (12 + x5) z19) (fun v27 z27 => f_gd (f_ib ((8 * x3) + x5) 64) (if 0 ≤ (v27 - (f_gI z27 31 0 (f_ix ((8 * x3) + x5)))) then (b_m_against_189 k137 x1 x2 x3 x5 x4 (v27 - (f_gI z27 31 0 (f_ix ((8 * x3) + x5)))) z27) else (b_m_against_189 k137 x1 x2 x3 x5 x4 (0 - (v27 - (f_gI z27 31 0 (f_ix ((8 * x3) + x5))))) z27)))))
def b_m_against_14  (k14 : Int32 × Int32 × fST → Option (Int32 × fST)) (v : Int32 × Int32 × fST) : Option (Int32 × fST) := match v with
  | (x1, x2, z) => f_bd (F_m_get x1 7 z) (fun v3 z3 => if v3 ≤ x2 then (f_bd (F_m_get x1 9 z3) (fun v5 z5 => f_bd (F_m_kindOf v5 z5) (fun v6 z6 => if v6 = ((-1)) then (some (3, z6)) else (f_bd (F_m_get x1 6 z6) (fun v8 z8 => if v8 = ((-1)) then (some (4, z8)) else (f_bd (F_m_get x1 6 z8) (fun v10 z10 => f_gd (f_ib ((6 * v6) + 3) 240) (f_gd (f_ib ((6 * v6) + 4) 240) (f_bd (F_m_within v10 (f_gI z10 33 0 (f_ix ((6 * v6) + 3))) (f_gI z10 33 0 (f_ix ((6 * v6) + 4))) z10) (fun v13 z13 => if v13 = 0 then (some (4, z13)) else (f_gd (f_ib ((6 * v6) + 5) 240) (f_it (b_m_against_137) 2000 (x1, v6, (f_gI z13 33 0 (f_ix ((6 * v6) + 5))), 0, 0, z13))))))))))))) else (f_bd (F_m_get x1 (9 + x2) z3) (fun v16 z16 => f_bd (F_m_get x1 9 z16) (fun v17 z17 => if v16 = v17 then (k14 (x1, (x2 + 1), z17)) else (some (2, z17))))))
def F_m_against (a1 : Int32) (z : fST) : Option (Int32 × fST) := f_bd (F_m_get a1 7 z) (fun v1 z1 => if v1 = 0 then (some (1, z1)) else (f_it (b_m_against_14) 2000 (a1, 1, z1)))
def b_m_judge_63  (k63 : Int32 × Int32 × fST → Option (Unit × fST)) (v : Int32 × Int32 × fST) : Option (Unit × fST) := match v with
  | (x1, x3, z) => if 8 ≤ x3 then (some ((()), f_pI z 30 0 15 ((f_gI z 30 0 15) + 1))) else (f_bd (F_m_get x1 (12 + x3) z) (fun v13 z13 => f_gd (f_ib ((8 * ((f_gI z 30 0 15) - (f_gI z 30 0 15) / 3 * 3)) + x3) 24) (k63 (x1, (x3 + 1), f_pI z13 40 0 (f_ix ((8 * ((f_gI z 30 0 15) - (f_gI z 30 0 15) / 3 * 3)) + x3)) v13))))
def F_m_judge (a1 : Int32) (z : fST) : Option (Unit × fST) := f_bd (F_m_against a1 z) (fun v1 z1 => if v1 ≤ 0 then (f_bd (F_m_writes z1) (fun v3 z3 => if v3 = 0 then (some ((()), z3)) else (f_bd (F_m_put a1 3 10 z3) (fun v5 z5 => f_bd (F_m_get a1 9 z5) (fun v6 z6 => f_bd (F_m_kindOf v6 z6) (fun v7 z7 => f_bd (F_m_put a1 4 v7 z7) (fun v8 z8 => f_it (b_m_judge_63) 2000 (a1, 0, z8)))))))) else (f_bd (F_m_put a1 3 v1 z1) (fun v9 z9 => f_gd (f_ib v1 10) (f_gd (f_ib v1 10) (some ((()), f_pI z9 41 0 (f_ix v1) ((f_gI z9 41 0 (f_ix v1)) + 1)))))))
def F_m_pay (a1 : Int32) (z : fST) : Option (Unit × fST) := f_bd (F_m_writes z) (fun v1 z1 => if v1 = 0 then (some ((()), z1)) else (f_bd (F_m_get a1 4 z1) (fun v3 z3 => f_gd (f_ib ((6 * v3) + 1) 240) (f_bd (F_m_put a1 5 1 z3) (fun v5 z5 => some ((()), f_pI (f_pI (f_pI z5 30 0 8 ((f_gI z5 30 0 8) + (f_gI z3 33 0 (f_ix ((6 * v3) + 1))))) 30 0 21 ((f_gI (f_pI z5 30 0 8 ((f_gI z5 30 0 8) + (f_gI z3 33 0 (f_ix ((6 * v3) + 1))))) 30 0 21) + 1)) 30 0 22 ((f_gI (f_pI (f_pI z5 30 0 8 ((f_gI z5 30 0 8) + (f_gI z3 33 0 (f_ix ((6 * v3) + 1))))) 30 0 21 ((f_gI (f_pI z5 30 0 8 ((f_gI z5 30 0 8) + (f_gI z3 33 0 (f_ix ((6 * v3) + 1))))) 30 0 21) + 1)) 30 0 22) + (f_gI z3 33 0 (f_ix ((6 * v3) + 1))))))))))
def F_m_drop (a1 : Int32) (z : fST) : Option (Int32 × fST) := f_bd (F_m_writes z) (fun v1 z1 => if v1 = 0 then (some (0, z1)) else (f_bd (F_m_get a1 4 z1) (fun v3 z3 => f_gd (f_ib ((6 * v3) + 2) 240) (f_gd (f_ib (f_gI z3 33 0 (f_ix ((6 * v3) + 2))) 3) (f_gd (f_ib (f_gI z3 33 0 (f_ix ((6 * v3) + 2))) 3) (f_bd (F_m_remove a1 (f_pI (f_pI z3 35 0 (f_ix (f_gI z3 33 0 (f_ix ((6 * v3) + 2)))) ((f_gI z3 35 0 (f_ix (f_gI z3 33 0 (f_ix ((6 * v3) + 2))))) + 1)) 30 0 16 0)) (fun v7 z7 => some (1, z7))))))))
def b_m_forward_190 (k40 : Int32 × Int32 × fST → Option (Int32 × fST)) (x1 : Int32) (x2 : Int32) (z : fST) : Option (Int32 × fST) := k40 (x1, x2, z)
def b_m_forward_185 (k40 : Int32 × Int32 × fST → Option (Int32 × fST)) (k94 : Int32 × Int32 × Int32 × fST → Option (Int32 × fST)) (x1 : Int32) (x2 : Int32) (y0 : Int32) (y1 : Int32) (z : fST) : Option (Int32 × fST) := k94 (x1, x2, (y0 + y1), z)
def b_m_forward_174 (k40 : Int32 × Int32 × fST → Option (Int32 × fST)) (k94 : Int32 × Int32 × Int32 × fST → Option (Int32 × fST)) (x1 : Int32) (x2 : Int32) (x3 : Int32) (x4 : Int32) (z : fST) : Option (Int32 × fST) := if x4 = 0 then (b_m_forward_185 k40 k94 x1 x2 x3 1 z) else (b_m_forward_185 k40 k94 x1 x2 x3 0 z)
def b_m_forward_150 (k40 : Int32 × Int32 × fST → Option (Int32 × fST)) (k94 : Int32 × Int32 × Int32 × fST → Option (Int32 × fST)) (x1 : Int32) (x2 : Int32) (x3 : Int32) (x4 : Int32) (z : fST) : Option (Int32 × fST) := if (f_gI z 30 0 17) = 0 then (f_bd (F_m_rear x3 z) (fun v24 z24 => if v24 = 110 then (f_bd (F_m_drop x3 z24) (fun v26 z26 => b_m_forward_174 k40 k94 x1 x2 x3 v26 z26)) else (b_m_forward_174 k40 k94 x1 x2 x3 x4 z24))) else (b_m_forward_174 k40 k94 x1 x2 x3 x4 z)
def b_m_forward_127 (k40 : Int32 × Int32 × fST → Option (Int32 × fST)) (k94 : Int32 × Int32 × Int32 × fST → Option (Int32 × fST)) (x1 : Int32) (x2 : Int32) (x3 : Int32) (x4 : Int32) (z : fST) : Option (Int32 × fST) := if (f_gI z 30 0 17) = 0 then (f_bd (F_m_get x3 2 z) (fun v20 z20 => if v20 = 105 then (f_bd (F_m_pay x3 z20) (fun v22 z22 => b_m_forward_150 k40 k94 x1 x2 x3 x4 z22)) else (b_m_forward_150 k40 k94 x1 x2 x3 x4 z20))) else (b_m_forward_150 k40 k94 x1 x2 x3 x4 z)
def b_m_forward_94 (k40 : Int32 × Int32 × fST → Option (Int32 × fST)) (k94 : Int32 × Int32 × Int32 × fST → Option (Int32 × fST)) (v : Int32 × Int32 × Int32 × fST) : Option (Int32 × fST) := match v with
  | (x1, x2, x3, z) => if (f_gI z 30 0 4) ≤ x3 then (b_m_forward_190 k40 x1 x2 z) else (if (f_gI z 30 0 17) = 0 then (f_bd (F_m_rear x3 z) (fun v16 z16 => if v16 = 60 then (f_bd (F_m_judge x3 z16) (fun v18 z18 => b_m_forward_127 k40 k94 x1 x2 x3 0 z18)) else (b_m_forward_127 k40 k94 x1 x2 x3 0 z16))) else (b_m_forward_190 k40 x1 x2 z))
def b_m_forward_61 (k40 : Int32 × Int32 × fST → Option (Int32 × fST)) (k61 : Int32 × Int32 × Int32 × fST → Option (Int32 × fST)) (v : Int32 × Int32 × Int32 × fST) : Option (Int32 × fST) := match v with
  | (x1, x2, x3, z) => if (f_gI z 30 0 4) ≤ x3 then (f_it (b_m_forward_94 k40) 2000 (x1, (x2 + 1), 0, z)) else (f_bd (F_m_get x3 2 z) (fun v12 z12 => f_bd (F_m_put x3 2 (v12 + 1) z12) (fun v13 z13 => k61 (x1, x2, (x3 + 1), z13))))
def b_m_forward_40  (k40 : Int32 × Int32 × fST → Option (Int32 × fST)) (v : Int32 × Int32 × fST) : Option (Int32 × fST) := match v with
  | (x1, x2, z) => if x1 ≤ x2 then (some (x2, z)) else (if (f_gI z 30 0 17) = 0 then (f_bd (F_m_isBlocked z) (fun v9 z9 => if v9 = 0 then (f_it (b_m_forward_61 k40) 2000 (x1, x2, 0, z9)) else (some (x2, z9)))) else (some (x2, z)))
def b_m_forward_29 (x1 : Int32) (y1 : Int32) (z : fST) : Option (Int32 × fST) := f_bd (F_m_fails y1 2 z) (fun v5 z5 => if v5 = 0 then (f_it (b_m_forward_40) 2000 (x1, 0, z5)) else (some (0, z5)))
def F_m_forward (a1 : Int32) (z : fST) : Option (Int32 × fST) := f_bd (F_m_fails (f_gI z 30 0 17) 1 z) (fun v1 z1 => if v1 = 0 then (f_bd (F_m_within a1 0 300 z1) (fun v3 z3 => if v3 = 0 then (b_m_forward_29 a1 1 z3) else (b_m_forward_29 a1 0 z3))) else (some (0, z1)))
def F_m_forget (a1 : Int32) (z : fST) : Option (Unit × fST) := f_bd (F_m_put a1 3 0 z) (fun v1 z1 => f_bd (F_m_put a1 4 ((-1)) z1) (fun v2 z2 => f_bd (F_m_put a1 6 ((-1)) z2) (fun v3 z3 => f_bd (F_m_put a1 7 0 z3) (fun v4 z4 => f_bd (F_m_put a1 8 0 z4) (fun v5 z5 => some ((()), z5))))))
def b_m_back_157 (k42 : Int32 × Int32 × Int32 × fST → Option (Int32 × fST)) (x1 : Int32) (x2 : Int32) (x3 : Int32) (y1 : Int32) (y2 : Int32) (z : fST) : Option (Int32 × fST) := k42 (x1, x2, (x3 + 1), f_pI z 30 0 16 (y1 + y2))
def b_m_back_136 (k42 : Int32 × Int32 × Int32 × fST → Option (Int32 × fST)) (k58 : Int32 × Int32 × Int32 × Int32 × Int32 × fST → Option (Int32 × fST)) (x1 : Int32) (x2 : Int32) (x3 : Int32) (x4 : Int32) (x5 : Int32) (z : fST) : Option (Int32 × fST) := k58 (x1, x2, x3, x4, (x5 + (-1)), z)
def b_m_back_114 (k42 : Int32 × Int32 × Int32 × fST → Option (Int32 × fST)) (k58 : Int32 × Int32 × Int32 × Int32 × Int32 × fST → Option (Int32 × fST)) (x1 : Int32) (x2 : Int32) (x3 : Int32) (x4 : Int32) (x5 : Int32) (z : fST) : Option (Int32 × fST) := f_bd (F_m_get x5 2 z) (fun v17 z17 => if v17 < 0 then (f_bd (F_m_remove x5 z17) (fun v19 z19 => b_m_back_136 k42 k58 x1 (x2 + 1) x3 x4 x5 z19)) else (b_m_back_136 k42 k58 x1 x2 x3 x4 x5 z17))
def b_m_back_58 (k42 : Int32 × Int32 × Int32 × fST → Option (Int32 × fST)) (k58 : Int32 × Int32 × Int32 × Int32 × Int32 × fST → Option (Int32 × fST)) (v : Int32 × Int32 × Int32 × Int32 × Int32 × fST) : Option (Int32 × fST) := match v with
  | (x1, x2, x3, x4, x5, z) => if x5 < 0 then (if x4 = 0 then (b_m_back_157 k42 x1 x2 x3 (f_gI z 30 0 16) 0 z) else (b_m_back_157 k42 x1 x2 x3 (f_gI z 30 0 16) 1 z)) else (f_bd (F_m_get x5 2 z) (fun v10 z10 => if v10 ≤ 104 then (f_bd (F_m_get x5 2 z10) (fun v12 z12 => f_bd (F_m_put x5 2 (v12 - 1) z12) (fun v13 z13 => f_bd (F_m_rear x5 z13) (fun v14 z14 => if v14 = 59 then (f_bd (F_m_forget x5 z14) (fun v16 z16 => b_m_back_114 k42 k58 x1 x2 x3 1 x5 z16)) else (b_m_back_114 k42 k58 x1 x2 x3 1 x5 z14))))) else (b_m_back_136 k42 k58 x1 x2 x3 x4 x5 z10)))
def b_m_back_42  (k42 : Int32 × Int32 × Int32 × fST → Option (Int32 × fST)) (v : Int32 × Int32 × Int32 × fST) : Option (Int32 × fST) := match v with
  | (x1, x2, x3, z) => if x1 ≤ x3 then (some (x2, z)) else (f_it (b_m_back_58 k42) 2000 (x1, x2, x3, 0, ((f_gI z 30 0 4) - 1), z))
def b_m_back_29 (x1 : Int32) (y1 : Int32) (z : fST) : Option (Int32 × fST) := f_bd (F_m_fails y1 2 z) (fun v5 z5 => if v5 = 0 then (f_it (b_m_back_42) 2000 (x1, 0, 0, z5)) else (some (0, z5)))
def F_m_back (a1 : Int32) (z : fST) : Option (Int32 × fST) := f_bd (F_m_fails (f_gI z 30 0 17) 1 z) (fun v1 z1 => if v1 = 0 then (f_bd (F_m_within a1 0 300 z1) (fun v3 z3 => if v3 = 0 then (b_m_back_29 a1 1 z3) else (b_m_back_29 a1 0 z3))) else (some (0, z1)))
def F_m_voucher (z : fST) : Option (Int32 × fST) := f_bd (F_m_fails (f_gI z 30 0 17) 1 z) (fun v1 z1 => if v1 = 0 then (if (f_gI z1 30 0 8) = 0 then (some (0, z1)) else (if (f_gI z1 30 0 12) = 60 then (some (0, z1)) else (f_bd (F_m_writes z1) (fun v5 z5 => if v5 = 0 then (some (0, z5)) else (f_gd (f_ib (f_gI (f_pI z5 30 0 13 ((f_gI z5 30 0 13) + 1)) 30 0 12) 60) (f_gd (f_ib (f_gI (f_pI (f_pI z5 30 0 13 ((f_gI z5 30 0 13) + 1)) 37 0 (f_ix (f_gI (f_pI z5 30 0 13 ((f_gI z5 30 0 13) + 1)) 30 0 12)) (f_gI (f_pI z5 30 0 13 ((f_gI z5 30 0 13) + 1)) 30 0 13)) 30 0 12) 60) (f_gd (f_ib (f_gI (f_pI (f_pI (f_pI z5 30 0 13 ((f_gI z5 30 0 13) + 1)) 37 0 (f_ix (f_gI (f_pI z5 30 0 13 ((f_gI z5 30 0 13) + 1)) 30 0 12)) (f_gI (f_pI z5 30 0 13 ((f_gI z5 30 0 13) + 1)) 30 0 13)) 38 0 (f_ix (f_gI (f_pI (f_pI z5 30 0 13 ((f_gI z5 30 0 13) + 1)) 37 0 (f_ix (f_gI (f_pI z5 30 0 13 ((f_gI z5 30 0 13) + 1)) 30 0 12)) (f_gI (f_pI z5 30 0 13 ((f_gI z5 30 0 13) + 1)) 30 0 13)) 30 0 12)) (f_gI (f_pI (f_pI z5 30 0 13 ((f_gI z5 30 0 13) + 1)) 37 0 (f_ix (f_gI (f_pI z5 30 0 13 ((f_gI z5 30 0 13) + 1)) 30 0 12)) (f_gI (f_pI z5 30 0 13 ((f_gI z5 30 0 13) + 1)) 30 0 13)) 30 0 8)) 30 0 12) 60) (some ((f_gI (f_pI (f_pI (f_pI (f_pI (f_pI (f_pI (f_pI z5 30 0 13 ((f_gI z5 30 0 13) + 1)) 37 0 (f_ix (f_gI (f_pI z5 30 0 13 ((f_gI z5 30 0 13) + 1)) 30 0 12)) (f_gI (f_pI z5 30 0 13 ((f_gI z5 30 0 13) + 1)) 30 0 13)) 38 0 (f_ix (f_gI (f_pI (f_pI z5 30 0 13 ((f_gI z5 30 0 13) + 1)) 37 0 (f_ix (f_gI (f_pI z5 30 0 13 ((f_gI z5 30 0 13) + 1)) 30 0 12)) (f_gI (f_pI z5 30 0 13 ((f_gI z5 30 0 13) + 1)) 30 0 13)) 30 0 12)) (f_gI (f_pI (f_pI z5 30 0 13 ((f_gI z5 30 0 13) + 1)) 37 0 (f_ix (f_gI (f_pI z5 30 0 13 ((f_gI z5 30 0 13) + 1)) 30 0 12)) (f_gI (f_pI z5 30 0 13 ((f_gI z5 30 0 13) + 1)) 30 0 13)) 30 0 8)) 39 0 (f_ix (f_gI (f_pI (f_pI (f_pI z5 30 0 13 ((f_gI z5 30 0 13) + 1)) 37 0 (f_ix (f_gI (f_pI z5 30 0 13 ((f_gI z5 30 0 13) + 1)) 30 0 12)) (f_gI (f_pI z5 30 0 13 ((f_gI z5 30 0 13) + 1)) 30 0 13)) 38 0 (f_ix (f_gI (f_pI (f_pI z5 30 0 13 ((f_gI z5 30 0 13) + 1)) 37 0 (f_ix (f_gI (f_pI z5 30 0 13 ((f_gI z5 30 0 13) + 1)) 30 0 12)) (f_gI (f_pI z5 30 0 13 ((f_gI z5 30 0 13) + 1)) 30 0 13)) 30 0 12)) (f_gI (f_pI (f_pI z5 30 0 13 ((f_gI z5 30 0 13) + 1)) 37 0 (f_ix (f_gI (f_pI z5 30 0 13 ((f_gI z5 30 0 13) + 1)) 30 0 12)) (f_gI (f_pI z5 30 0 13 ((f_gI z5 30 0 13) + 1)) 30 0 13)) 30 0 8)) 30 0 12)) 0) 30 0 12 ((f_gI (f_pI (f_pI (f_pI (f_pI z5 30 0 13 ((f_gI z5 30 0 13) + 1)) 37 0 (f_ix (f_gI (f_pI z5 30 0 13 ((f_gI z5 30 0 13) + 1)) 30 0 12)) (f_gI (f_pI z5 30 0 13 ((f_gI z5 30 0 13) + 1)) 30 0 13)) 38 0 (f_ix (f_gI (f_pI (f_pI z5 30 0 13 ((f_gI z5 30 0 13) + 1)) 37 0 (f_ix (f_gI (f_pI z5 30 0 13 ((f_gI z5 30 0 13) + 1)) 30 0 12)) (f_gI (f_pI z5 30 0 13 ((f_gI z5 30 0 13) + 1)) 30 0 13)) 30 0 12)) (f_gI (f_pI (f_pI z5 30 0 13 ((f_gI z5 30 0 13) + 1)) 37 0 (f_ix (f_gI (f_pI z5 30 0 13 ((f_gI z5 30 0 13) + 1)) 30 0 12)) (f_gI (f_pI z5 30 0 13 ((f_gI z5 30 0 13) + 1)) 30 0 13)) 30 0 8)) 39 0 (f_ix (f_gI (f_pI (f_pI (f_pI z5 30 0 13 ((f_gI z5 30 0 13) + 1)) 37 0 (f_ix (f_gI (f_pI z5 30 0 13 ((f_gI z5 30 0 13) + 1)) 30 0 12)) (f_gI (f_pI z5 30 0 13 ((f_gI z5 30 0 13) + 1)) 30 0 13)) 38 0 (f_ix (f_gI (f_pI (f_pI z5 30 0 13 ((f_gI z5 30 0 13) + 1)) 37 0 (f_ix (f_gI (f_pI z5 30 0 13 ((f_gI z5 30 0 13) + 1)) 30 0 12)) (f_gI (f_pI z5 30 0 13 ((f_gI z5 30 0 13) + 1)) 30 0 13)) 30 0 12)) (f_gI (f_pI (f_pI z5 30 0 13 ((f_gI z5 30 0 13) + 1)) 37 0 (f_ix (f_gI (f_pI z5 30 0 13 ((f_gI z5 30 0 13) + 1)) 30 0 12)) (f_gI (f_pI z5 30 0 13 ((f_gI z5 30 0 13) + 1)) 30 0 13)) 30 0 8)) 30 0 12)) 0) 30 0 12) + 1)) 30 0 23 ((f_gI (f_pI (f_pI (f_pI (f_pI (f_pI z5 30 0 13 ((f_gI z5 30 0 13) + 1)) 37 0 (f_ix (f_gI (f_pI z5 30 0 13 ((f_gI z5 30 0 13) + 1)) 30 0 12)) (f_gI (f_pI z5 30 0 13 ((f_gI z5 30 0 13) + 1)) 30 0 13)) 38 0 (f_ix (f_gI (f_pI (f_pI z5 30 0 13 ((f_gI z5 30 0 13) + 1)) 37 0 (f_ix (f_gI (f_pI z5 30 0 13 ((f_gI z5 30 0 13) + 1)) 30 0 12)) (f_gI (f_pI z5 30 0 13 ((f_gI z5 30 0 13) + 1)) 30 0 13)) 30 0 12)) (f_gI (f_pI (f_pI z5 30 0 13 ((f_gI z5 30 0 13) + 1)) 37 0 (f_ix (f_gI (f_pI z5 30 0 13 ((f_gI z5 30 0 13) + 1)) 30 0 12)) (f_gI (f_pI z5 30 0 13 ((f_gI z5 30 0 13) + 1)) 30 0 13)) 30 0 8)) 39 0 (f_ix (f_gI (f_pI (f_pI (f_pI z5 30 0 13 ((f_gI z5 30 0 13) + 1)) 37 0 (f_ix (f_gI (f_pI z5 30 0 13 ((f_gI z5 30 0 13) + 1)) 30 0 12)) (f_gI (f_pI z5 30 0 13 ((f_gI z5 30 0 13) + 1)) 30 0 13)) 38 0 (f_ix (f_gI (f_pI (f_pI z5 30 0 13 ((f_gI z5 30 0 13) + 1)) 37 0 (f_ix (f_gI (f_pI z5 30 0 13 ((f_gI z5 30 0 13) + 1)) 30 0 12)) (f_gI (f_pI z5 30 0 13 ((f_gI z5 30 0 13) + 1)) 30 0 13)) 30 0 12)) (f_gI (f_pI (f_pI z5 30 0 13 ((f_gI z5 30 0 13) + 1)) 37 0 (f_ix (f_gI (f_pI z5 30 0 13 ((f_gI z5 30 0 13) + 1)) 30 0 12)) (f_gI (f_pI z5 30 0 13 ((f_gI z5 30 0 13) + 1)) 30 0 13)) 30 0 8)) 30 0 12)) 0) 30 0 12 ((f_gI (f_pI (f_pI (f_pI (f_pI z5 30 0 13 ((f_gI z5 30 0 13) + 1)) 37 0 (f_ix (f_gI (f_pI z5 30 0 13 ((f_gI z5 30 0 13) + 1)) 30 0 12)) (f_gI (f_pI z5 30 0 13 ((f_gI z5 30 0 13) + 1)) 30 0 13)) 38 0 (f_ix (f_gI (f_pI (f_pI z5 30 0 13 ((f_gI z5 30 0 13) + 1)) 37 0 (f_ix (f_gI (f_pI z5 30 0 13 ((f_gI z5 30 0 13) + 1)) 30 0 12)) (f_gI (f_pI z5 30 0 13 ((f_gI z5 30 0 13) + 1)) 30 0 13)) 30 0 12)) (f_gI (f_pI (f_pI z5 30 0 13 ((f_gI z5 30 0 13) + 1)) 37 0 (f_ix (f_gI (f_pI z5 30 0 13 ((f_gI z5 30 0 13) + 1)) 30 0 12)) (f_gI (f_pI z5 30 0 13 ((f_gI z5 30 0 13) + 1)) 30 0 13)) 30 0 8)) 39 0 (f_ix (f_gI (f_pI (f_pI (f_pI z5 30 0 13 ((f_gI z5 30 0 13) + 1)) 37 0 (f_ix (f_gI (f_pI z5 30 0 13 ((f_gI z5 30 0 13) + 1)) 30 0 12)) (f_gI (f_pI z5 30 0 13 ((f_gI z5 30 0 13) + 1)) 30 0 13)) 38 0 (f_ix (f_gI (f_pI (f_pI z5 30 0 13 ((f_gI z5 30 0 13) + 1)) 37 0 (f_ix (f_gI (f_pI z5 30 0 13 ((f_gI z5 30 0 13) + 1)) 30 0 12)) (f_gI (f_pI z5 30 0 13 ((f_gI z5 30 0 13) + 1)) 30 0 13)) 30 0 12)) (f_gI (f_pI (f_pI z5 30 0 13 ((f_gI z5 30 0 13) + 1)) 37 0 (f_ix (f_gI (f_pI z5 30 0 13 ((f_gI z5 30 0 13) + 1)) 30 0 12)) (f_gI (f_pI z5 30 0 13 ((f_gI z5 30 0 13) + 1)) 30 0 13)) 30 0 8)) 30 0 12)) 0) 30 0 12) + 1)) 30 0 23) + (f_gI (f_pI (f_pI (f_pI (f_pI (f_pI z5 30 0 13 ((f_gI z5 30 0 13) + 1)) 37 0 (f_ix (f_gI (f_pI z5 30 0 13 ((f_gI z5 30 0 13) + 1)) 30 0 12)) (f_gI (f_pI z5 30 0 13 ((f_gI z5 30 0 13) + 1)) 30 0 13)) 38 0 (f_ix (f_gI (f_pI (f_pI z5 30 0 13 ((f_gI z5 30 0 13) + 1)) 37 0 (f_ix (f_gI (f_pI z5 30 0 13 ((f_gI z5 30 0 13) + 1)) 30 0 12)) (f_gI (f_pI z5 30 0 13 ((f_gI z5 30 0 13) + 1)) 30 0 13)) 30 0 12)) (f_gI (f_pI (f_pI z5 30 0 13 ((f_gI z5 30 0 13) + 1)) 37 0 (f_ix (f_gI (f_pI z5 30 0 13 ((f_gI z5 30 0 13) + 1)) 30 0 12)) (f_gI (f_pI z5 30 0 13 ((f_gI z5 30 0 13) + 1)) 30 0 13)) 30 0 8)) 39 0 (f_ix (f_gI (f_pI (f_pI (f_pI z5 30 0 13 ((f_gI z5 30 0 13) + 1)) 37 0 (f_ix (f_gI (f_pI z5 30 0 13 ((f_gI z5 30 0 13) + 1)) 30 0 12)) (f_gI (f_pI z5 30 0 13 ((f_gI z5 30 0 13) + 1)) 30 0 13)) 38 0 (f_ix (f_gI (f_pI (f_pI z5 30 0 13 ((f_gI z5 30 0 13) + 1)) 37 0 (f_ix (f_gI (f_pI z5 30 0 13 ((f_gI z5 30 0 13) + 1)) 30 0 12)) (f_gI (f_pI z5 30 0 13 ((f_gI z5 30 0 13) + 1)) 30 0 13)) 30 0 12)) (f_gI (f_pI (f_pI z5 30 0 13 ((f_gI z5 30 0 13) + 1)) 37 0 (f_ix (f_gI (f_pI z5 30 0 13 ((f_gI z5 30 0 13) + 1)) 30 0 12)) (f_gI (f_pI z5 30 0 13 ((f_gI z5 30 0 13) + 1)) 30 0 13)) 30 0 8)) 30 0 12)) 0) 30 0 12 ((f_gI (f_pI (f_pI (f_pI (f_pI z5 30 0 13 ((f_gI z5 30 0 13) + 1)) 37 0 (f_ix (f_gI (f_pI z5 30 0 13 ((f_gI z5 30 0 13) + 1)) 30 0 12)) (f_gI (f_pI z5 30 0 13 ((f_gI z5 30 0 13) + 1)) 30 0 13)) 38 0 (f_ix (f_gI (f_pI (f_pI z5 30 0 13 ((f_gI z5 30 0 13) + 1)) 37 0 (f_ix (f_gI (f_pI z5 30 0 13 ((f_gI z5 30 0 13) + 1)) 30 0 12)) (f_gI (f_pI z5 30 0 13 ((f_gI z5 30 0 13) + 1)) 30 0 13)) 30 0 12)) (f_gI (f_pI (f_pI z5 30 0 13 ((f_gI z5 30 0 13) + 1)) 37 0 (f_ix (f_gI (f_pI z5 30 0 13 ((f_gI z5 30 0 13) + 1)) 30 0 12)) (f_gI (f_pI z5 30 0 13 ((f_gI z5 30 0 13) + 1)) 30 0 13)) 30 0 8)) 39 0 (f_ix (f_gI (f_pI (f_pI (f_pI z5 30 0 13 ((f_gI z5 30 0 13) + 1)) 37 0 (f_ix (f_gI (f_pI z5 30 0 13 ((f_gI z5 30 0 13) + 1)) 30 0 12)) (f_gI (f_pI z5 30 0 13 ((f_gI z5 30 0 13) + 1)) 30 0 13)) 38 0 (f_ix (f_gI (f_pI (f_pI z5 30 0 13 ((f_gI z5 30 0 13) + 1)) 37 0 (f_ix (f_gI (f_pI z5 30 0 13 ((f_gI z5 30 0 13) + 1)) 30 0 12)) (f_gI (f_pI z5 30 0 13 ((f_gI z5 30 0 13) + 1)) 30 0 13)) 30 0 12)) (f_gI (f_pI (f_pI z5 30 0 13 ((f_gI z5 30 0 13) + 1)) 37 0 (f_ix (f_gI (f_pI z5 30 0 13 ((f_gI z5 30 0 13) + 1)) 30 0 12)) (f_gI (f_pI z5 30 0 13 ((f_gI z5 30 0 13) + 1)) 30 0 13)) 30 0 8)) 30 0 12)) 0) 30 0 12) + 1)) 30 0 8))) 30 0 8 0) 30 0 13), f_pI (f_pI (f_pI (f_pI (f_pI (f_pI (f_pI z5 30 0 13 ((f_gI z5 30 0 13) + 1)) 37 0 (f_ix (f_gI (f_pI z5 30 0 13 ((f_gI z5 30 0 13) + 1)) 30 0 12)) (f_gI (f_pI z5 30 0 13 ((f_gI z5 30 0 13) + 1)) 30 0 13)) 38 0 (f_ix (f_gI (f_pI (f_pI z5 30 0 13 ((f_gI z5 30 0 13) + 1)) 37 0 (f_ix (f_gI (f_pI z5 30 0 13 ((f_gI z5 30 0 13) + 1)) 30 0 12)) (f_gI (f_pI z5 30 0 13 ((f_gI z5 30 0 13) + 1)) 30 0 13)) 30 0 12)) (f_gI (f_pI (f_pI z5 30 0 13 ((f_gI z5 30 0 13) + 1)) 37 0 (f_ix (f_gI (f_pI z5 30 0 13 ((f_gI z5 30 0 13) + 1)) 30 0 12)) (f_gI (f_pI z5 30 0 13 ((f_gI z5 30 0 13) + 1)) 30 0 13)) 30 0 8)) 39 0 (f_ix (f_gI (f_pI (f_pI (f_pI z5 30 0 13 ((f_gI z5 30 0 13) + 1)) 37 0 (f_ix (f_gI (f_pI z5 30 0 13 ((f_gI z5 30 0 13) + 1)) 30 0 12)) (f_gI (f_pI z5 30 0 13 ((f_gI z5 30 0 13) + 1)) 30 0 13)) 38 0 (f_ix (f_gI (f_pI (f_pI z5 30 0 13 ((f_gI z5 30 0 13) + 1)) 37 0 (f_ix (f_gI (f_pI z5 30 0 13 ((f_gI z5 30 0 13) + 1)) 30 0 12)) (f_gI (f_pI z5 30 0 13 ((f_gI z5 30 0 13) + 1)) 30 0 13)) 30 0 12)) (f_gI (f_pI (f_pI z5 30 0 13 ((f_gI z5 30 0 13) + 1)) 37 0 (f_ix (f_gI (f_pI z5 30 0 13 ((f_gI z5 30 0 13) + 1)) 30 0 12)) (f_gI (f_pI z5 30 0 13 ((f_gI z5 30 0 13) + 1)) 30 0 13)) 30 0 8)) 30 0 12)) 0) 30 0 12 ((f_gI (f_pI (f_pI (f_pI (f_pI z5 30 0 13 ((f_gI z5 30 0 13) + 1)) 37 0 (f_ix (f_gI (f_pI z5 30 0 13 ((f_gI z5 30 0 13) + 1)) 30 0 12)) (f_gI (f_pI z5 30 0 13 ((f_gI z5 30 0 13) + 1)) 30 0 13)) 38 0 (f_ix (f_gI (f_pI (f_pI z5 30 0 13 ((f_gI z5 30 0 13) + 1)) 37 0 (f_ix (f_gI (f_pI z5 30 0 13 ((f_gI z5 30 0 13) + 1)) 30 0 12)) (f_gI (f_pI z5 30 0 13 ((f_gI z5 30 0 13) + 1)) 30 0 13)) 30 0 12)) (f_gI (f_pI (f_pI z5 30 0 13 ((f_gI z5 30 0 13) + 1)) 37 0 (f_ix (f_gI (f_pI z5 30 0 13 ((f_gI z5 30 0 13) + 1)) 30 0 12)) (f_gI (f_pI z5 30 0 13 ((f_gI z5 30 0 13) + 1)) 30 0 13)) 30 0 8)) 39 0 (f_ix (f_gI (f_pI (f_pI (f_pI z5 30 0 13 ((f_gI z5 30 0 13) + 1)) 37 0 (f_ix (f_gI (f_pI z5 30 0 13 ((f_gI z5 30 0 13) + 1)) 30 0 12)) (f_gI (f_pI z5 30 0 13 ((f_gI z5 30 0 13) + 1)) 30 0 13)) 38 0 (f_ix (f_gI (f_pI (f_pI z5 30 0 13 ((f_gI z5 30 0 13) + 1)) 37 0 (f_ix (f_gI (f_pI z5 30 0 13 ((f_gI z5 30 0 13) + 1)) 30 0 12)) (f_gI (f_pI z5 30 0 13 ((f_gI z5 30 0 13) + 1)) 30 0 13)) 30 0 12)) (f_gI (f_pI (f_pI z5 30 0 13 ((f_gI z5 30 0 13) + 1)) 37 0 (f_ix (f_gI (f_pI z5 30 0 13 ((f_gI z5 30 0 13) + 1)) 30 0 12)) (f_gI (f_pI z5 30 0 13 ((f_gI z5 30 0 13) + 1)) 30 0 13)) 30 0 8)) 30 0 12)) 0) 30 0 12) + 1)) 30 0 23 ((f_gI (f_pI (f_pI (f_pI (f_pI (f_pI z5 30 0 13 ((f_gI z5 30 0 13) + 1)) 37 0 (f_ix (f_gI (f_pI z5 30 0 13 ((f_gI z5 30 0 13) + 1)) 30 0 12)) (f_gI (f_pI z5 30 0 13 ((f_gI z5 30 0 13) + 1)) 30 0 13)) 38 0 (f_ix (f_gI (f_pI (f_pI z5 30 0 13 ((f_gI z5 30 0 13) + 1)) 37 0 (f_ix (f_gI (f_pI z5 30 0 13 ((f_gI z5 30 0 13) + 1)) 30 0 12)) (f_gI (f_pI z5 30 0 13 ((f_gI z5 30 0 13) + 1)) 30 0 13)) 30 0 12)) (f_gI (f_pI (f_pI z5 30 0 13 ((f_gI z5 30 0 13) + 1)) 37 0 (f_ix (f_gI (f_pI z5 30 0 13 ((f_gI z5 30 0 13) + 1)) 30 0 12)) (f_gI (f_pI z5 30 0 13 ((f_gI z5 30 0 13) + 1)) 30 0 13)) 30 0 8)) 39 0 (f_ix (f_gI (f_pI (f_pI (f_pI z5 30 0 13 ((f_gI z5 30 0 13) + 1)) 37 0 (f_ix (f_gI (f_pI z5 30 0 13 ((f_gI z5 30 0 13) + 1)) 30 0 12)) (f_gI (f_pI z5 30 0 13 ((f_gI z5 30 0 13) + 1)) 30 0 13)) 38 0 (f_ix (f_gI (f_pI (f_pI z5 30 0 13 ((f_gI z5 30 0 13) + 1)) 37 0 (f_ix (f_gI (f_pI z5 30 0 13 ((f_gI z5 30 0 13) + 1)) 30 0 12)) (f_gI (f_pI z5 30 0 13 ((f_gI z5 30 0 13) + 1)) 30 0 13)) 30 0 12)) (f_gI (f_pI (f_pI z5 30 0 13 ((f_gI z5 30 0 13) + 1)) 37 0 (f_ix (f_gI (f_pI z5 30 0 13 ((f_gI z5 30 0 13) + 1)) 30 0 12)) (f_gI (f_pI z5 30 0 13 ((f_gI z5 30 0 13) + 1)) 30 0 13)) 30 0 8)) 30 0 12)) 0) 30 0 12 ((f_gI (f_pI (f_pI (f_pI (f_pI z5 30 0 13 ((f_gI z5 30 0 13) + 1)) 37 0 (f_ix (f_gI (f_pI z5 30 0 13 ((f_gI z5 30 0 13) + 1)) 30 0 12)) (f_gI (f_pI z5 30 0 13 ((f_gI z5 30 0 13) + 1)) 30 0 13)) 38 0 (f_ix (f_gI (f_pI (f_pI z5 30 0 13 ((f_gI z5 30 0 13) + 1)) 37 0 (f_ix (f_gI (f_pI z5 30 0 13 ((f_gI z5 30 0 13) + 1)) 30 0 12)) (f_gI (f_pI z5 30 0 13 ((f_gI z5 30 0 13) + 1)) 30 0 13)) 30 0 12)) (f_gI (f_pI (f_pI z5 30 0 13 ((f_gI z5 30 0 13) + 1)) 37 0 (f_ix (f_gI (f_pI z5 30 0 13 ((f_gI z5 30 0 13) + 1)) 30 0 12)) (f_gI (f_pI z5 30 0 13 ((f_gI z5 30 0 13) + 1)) 30 0 13)) 30 0 8)) 39 0 (f_ix (f_gI (f_pI (f_pI (f_pI z5 30 0 13 ((f_gI z5 30 0 13) + 1)) 37 0 (f_ix (f_gI (f_pI z5 30 0 13 ((f_gI z5 30 0 13) + 1)) 30 0 12)) (f_gI (f_pI z5 30 0 13 ((f_gI z5 30 0 13) + 1)) 30 0 13)) 38 0 (f_ix (f_gI (f_pI (f_pI z5 30 0 13 ((f_gI z5 30 0 13) + 1)) 37 0 (f_ix (f_gI (f_pI z5 30 0 13 ((f_gI z5 30 0 13) + 1)) 30 0 12)) (f_gI (f_pI z5 30 0 13 ((f_gI z5 30 0 13) + 1)) 30 0 13)) 30 0 12)) (f_gI (f_pI (f_pI z5 30 0 13 ((f_gI z5 30 0 13) + 1)) 37 0 (f_ix (f_gI (f_pI z5 30 0 13 ((f_gI z5 30 0 13) + 1)) 30 0 12)) (f_gI (f_pI z5 30 0 13 ((f_gI z5 30 0 13) + 1)) 30 0 13)) 30 0 8)) 30 0 12)) 0) 30 0 12) + 1)) 30 0 23) + (f_gI (f_pI (f_pI (f_pI (f_pI (f_pI z5 30 0 13 ((f_gI z5 30 0 13) + 1)) 37 0 (f_ix (f_gI (f_pI z5 30 0 13 ((f_gI z5 30 0 13) + 1)) 30 0 12)) (f_gI (f_pI z5 30 0 13 ((f_gI z5 30 0 13) + 1)) 30 0 13)) 38 0 (f_ix (f_gI (f_pI (f_pI z5 30 0 13 ((f_gI z5 30 0 13) + 1)) 37 0 (f_ix (f_gI (f_pI z5 30 0 13 ((f_gI z5 30 0 13) + 1)) 30 0 12)) (f_gI (f_pI z5 30 0 13 ((f_gI z5 30 0 13) + 1)) 30 0 13)) 30 0 12)) (f_gI (f_pI (f_pI z5 30 0 13 ((f_gI z5 30 0 13) + 1)) 37 0 (f_ix (f_gI (f_pI z5 30 0 13 ((f_gI z5 30 0 13) + 1)) 30 0 12)) (f_gI (f_pI z5 30 0 13 ((f_gI z5 30 0 13) + 1)) 30 0 13)) 30 0 8)) 39 0 (f_ix (f_gI (f_pI (f_pI (f_pI z5 30 0 13 ((f_gI z5 30 0 13) + 1)) 37 0 (f_ix (f_gI (f_pI z5 30 0 13 ((f_gI z5 30 0 13) + 1)) 30 0 12)) (f_gI (f_pI z5 30 0 13 ((f_gI z5 30 0 13) + 1)) 30 0 13)) 38 0 (f_ix (f_gI (f_pI (f_pI z5 30 0 13 ((f_gI z5 30 0 13) + 1)) 37 0 (f_ix (f_gI (f_pI z5 30 0 13 ((f_gI z5 30 0 13) + 1)) 30 0 12)) (f_gI (f_pI z5 30 0 13 ((f_gI z5 30 0 13) + 1)) 30 0 13)) 30 0 12)) (f_gI (f_pI (f_pI z5 30 0 13 ((f_gI z5 30 0 13) + 1)) 37 0 (f_ix (f_gI (f_pI z5 30 0 13 ((f_gI z5 30 0 13) + 1)) 30 0 12)) (f_gI (f_pI z5 30 0 13 ((f_gI z5 30 0 13) + 1)) 30 0 13)) 30 0 8)) 30 0 12)) 0) 30 0 12 ((f_gI (f_pI (f_pI (f_pI (f_pI z5 30 0 13 ((f_gI z5 30 0 13) + 1)) 37 0 (f_ix (f_gI (f_pI z5 30 0 13 ((f_gI z5 30 0 13) + 1)) 30 0 12)) (f_gI (f_pI z5 30 0 13 ((f_gI z5 30 0 13) + 1)) 30 0 13)) 38 0 (f_ix (f_gI (f_pI (f_pI z5 30 0 13 ((f_gI z5 30 0 13) + 1)) 37 0 (f_ix (f_gI (f_pI z5 30 0 13 ((f_gI z5 30 0 13) + 1)) 30 0 12)) (f_gI (f_pI z5 30 0 13 ((f_gI z5 30 0 13) + 1)) 30 0 13)) 30 0 12)) (f_gI (f_pI (f_pI z5 30 0 13 ((f_gI z5 30 0 13) + 1)) 37 0 (f_ix (f_gI (f_pI z5 30 0 13 ((f_gI z5 30 0 13) + 1)) 30 0 12)) (f_gI (f_pI z5 30 0 13 ((f_gI z5 30 0 13) + 1)) 30 0 13)) 30 0 8)) 39 0 (f_ix (f_gI (f_pI (f_pI (f_pI z5 30 0 13 ((f_gI z5 30 0 13) + 1)) 37 0 (f_ix (f_gI (f_pI z5 30 0 13 ((f_gI z5 30 0 13) + 1)) 30 0 12)) (f_gI (f_pI z5 30 0 13 ((f_gI z5 30 0 13) + 1)) 30 0 13)) 38 0 (f_ix (f_gI (f_pI (f_pI z5 30 0 13 ((f_gI z5 30 0 13) + 1)) 37 0 (f_ix (f_gI (f_pI z5 30 0 13 ((f_gI z5 30 0 13) + 1)) 30 0 12)) (f_gI (f_pI z5 30 0 13 ((f_gI z5 30 0 13) + 1)) 30 0 13)) 30 0 12)) (f_gI (f_pI (f_pI z5 30 0 13 ((f_gI z5 30 0 13) + 1)) 37 0 (f_ix (f_gI (f_pI z5 30 0 13 ((f_gI z5 30 0 13) + 1)) 30 0 12)) (f_gI (f_pI z5 30 0 13 ((f_gI z5 30 0 13) + 1)) 30 0 13)) 30 0 8)) 30 0 12)) 0) 30 0 12) + 1)) 30 0 8))) 30 0 8 0))))))))) else (some (0, z1)))
def F_m_give (z : fST) : Option (Int32 × fST) := f_bd (F_m_fails (f_gI z 30 0 17) 1 z) (fun v1 z1 => if v1 = 0 then (if (f_gI z1 30 0 8) = 0 then (some (0, z1)) else (f_bd (F_m_writes z1) (fun v4 z4 => if v4 = 0 then (some (0, z4)) else (some ((f_gI z4 30 0 8), f_pI (f_pI z4 30 0 24 ((f_gI z4 30 0 24) + (f_gI z4 30 0 8))) 30 0 8 0))))) else (some (0, z1)))
def b_m_voucherAt_2  (k2 : Int32 × Int32 × fST → Option (Int32 × fST)) (v : Int32 × Int32 × fST) : Option (Int32 × fST) := match v with
  | (x1, x2, z) => if (f_gI z 30 0 12) ≤ x2 then (some (((-1)), z)) else (f_gd (f_ib x2 60) (if (f_gI z 37 0 (f_ix x2)) = x1 then (some (x2, z)) else (k2 (x1, (x2 + 1), z))))
def F_m_voucherAt (a1 : Int32) (z : fST) : Option (Int32 × fST) := f_it (b_m_voucherAt_2) 2000 (a1, 0, z)
def b_m_redeem_29 (x2 : Int32) (y1 : Int32) (z : fST) : Option (Int32 × fST) := f_bd (F_m_fails y1 2 z) (fun v5 z5 => if v5 = 0 then (f_gd (f_ib x2 60) (if (f_gI z5 39 0 (f_ix x2)) = 0 then (f_gd (f_ib x2 60) (f_gd (f_ib x2 60) (some ((f_gI (f_pI z5 39 0 (f_ix x2) 1) 38 0 (f_ix x2)), f_pI z5 39 0 (f_ix x2) 1)))) else (some (0, z5)))) else (some (0, z5)))
def F_m_redeem (a1 : Int32) (z : fST) : Option (Int32 × fST) := f_bd (F_m_voucherAt a1 z) (fun v1 z1 => f_bd (F_m_fails (f_gI z1 30 0 17) 1 z1) (fun v2 z2 => if v2 = 0 then (if v1 = ((-1)) then (b_m_redeem_29 v1 1 z2) else (b_m_redeem_29 v1 0 z2)) else (some (0, z2))))
def b_m_clear_72 (k18 : Int32 × Int32 × fST → Option (Int32 × fST)) (x1 : Int32) (x2 : Int32) (z : fST) : Option (Int32 × fST) := k18 (x1, (x2 + 1), z)
def b_m_clear_18  (k18 : Int32 × Int32 × fST → Option (Int32 × fST)) (v : Int32 × Int32 × fST) : Option (Int32 × fST) := match v with
  | (x1, x2, z) => if (f_gI z 30 0 12) ≤ x2 then (some (((f_gI z 30 0 12) - x1), f_pI z 30 0 12 x1)) else (f_gd (f_ib x2 60) (if (f_gI z 39 0 (f_ix x2)) = 0 then (f_gd (f_ib x2 60) (f_gd (f_ib x1 60) (f_gd (f_ib x2 60) (f_gd (f_ib x1 60) (f_gd (f_ib x1 60) (b_m_clear_72 k18 (x1 + 1) x2 (f_pI (f_pI (f_pI z 37 0 (f_ix x1) (f_gI z 37 0 (f_ix x2))) 38 0 (f_ix x1) (f_gI (f_pI z 37 0 (f_ix x1) (f_gI z 37 0 (f_ix x2))) 38 0 (f_ix x2))) 39 0 (f_ix x1) 0))))))) else (b_m_clear_72 k18 x1 x2 z)))
def F_m_clear (z : fST) : Option (Int32 × fST) := f_bd (F_m_fails (f_gI z 30 0 17) 1 z) (fun v1 z1 => if v1 = 0 then (f_it (b_m_clear_18) 2000 (0, 0, z1)) else (some (0, z1)))
def b_m_empty_38 (x1 : Int32) (x2 : Int32) (y1 : Int32) (z : fST) : Option (Int32 × fST) := f_bd (F_m_fails y1 2 z) (fun v7 z7 => if v7 = 0 then (f_gd (f_ib x1 3) (f_gd (f_ib x1 3) (f_gd (f_ib x1 3) (some ((f_gI z7 35 0 (f_ix x1)), f_pI (f_pI z7 35 0 (f_ix x1) 0) 36 0 (f_ix x1) x2))))) else (some (0, z7)))
def b_m_empty_33 (x1 : Int32) (x2 : Int32) (z : fST) : Option (Int32 × fST) := b_m_empty_38 x1 x2 1 z
def F_m_empty (a1 : Int32) (a2 : Int32) (z : fST) : Option (Int32 × fST) := f_bd (F_m_fails (f_gI z 30 0 17) 1 z) (fun v1 z1 => if v1 = 0 then (f_bd (F_m_within a1 0 2 z1) (fun v3 z3 => if v3 = 0 then (b_m_empty_33 a1 a2 z3) else (f_bd (F_m_within a2 0 200 z3) (fun v5 z5 => if v5 = 0 then (b_m_empty_33 a1 a2 z5) else (b_m_empty_38 a1 a2 0 z5))))) else (some (0, z1)))
def b_m_service_20 (y1 : Int32) (z : fST) : Option (Int32 × fST) := f_bd (F_m_fails y1 1 z) (fun v3 z3 => if v3 = 0 then (f_bd (F_m_isSuspicious z3) (fun v5 z5 => f_gd (f_bz v5) (some (v5, f_pI z5 30 0 16 0)))) else (some (0, z3)))
def b_m_service_15 (z : fST) : Option (Int32 × fST) := b_m_service_20 1 z
def F_m_service (z : fST) : Option (Int32 × fST) := if (f_gI z 30 0 17) = 0 then (if (f_gI z 30 0 4) ≤ 0 then (b_m_service_20 0 z) else (b_m_service_15 z)) else (b_m_service_15 z)
def b_m_cut_17 (x1 : Int32) (y1 : Int32) (z : fST) : Option (Unit × fST) := f_bd (F_m_fails y1 1 z) (fun v3 z3 => if v3 = 0 then (some ((()), f_pI z3 30 0 18 x1)) else (some ((()), z3)))
def F_m_cut (a1 : Int32) (z : fST) : Option (Unit × fST) := f_bd (F_m_within a1 0 1000 z) (fun v1 z1 => if v1 = 0 then (b_m_cut_17 a1 1 z1) else (b_m_cut_17 a1 0 z1))
def b_m_power_160 (x1 : Int32) (z : fST) : Option (Int32 × fST) := some (((f_gI z 30 0 19) - x1), z)
def b_m_power_155 (k106 : Int32 × Int32 × fST → Option (Int32 × fST)) (x1 : Int32) (y0 : Int32) (y1 : Int32) (z : fST) : Option (Int32 × fST) := k106 (x1, (y0 + y1), z)
def b_m_power_144 (k106 : Int32 × Int32 × fST → Option (Int32 × fST)) (x1 : Int32) (x2 : Int32) (y0 : Int32) (z : fST) : Option (Int32 × fST) := if y0 = 0 then (b_m_power_155 k106 x1 x2 1 z) else (b_m_power_155 k106 x1 x2 0 z)
def b_m_power_143 (k106 : Int32 × Int32 × fST → Option (Int32 × fST)) (x1 : Int32) (x2 : Int32) (z : fST) : Option (Int32 × fST) := b_m_power_144 k106 x1 x2 0 z
def b_m_power_106  (k106 : Int32 × Int32 × fST → Option (Int32 × fST)) (v : Int32 × Int32 × fST) : Option (Int32 × fST) := match v with
  | (x1, x2, z) => if (f_gI z 30 0 4) ≤ x2 then (b_m_power_160  x1 z) else (if (f_gI z 30 0 17) = 0 then (f_bd (F_m_rear x2 z) (fun v15 z15 => if v15 < 110 then (b_m_power_143 k106 x1 x2 z15) else (f_bd (F_m_drop x2 z15) (fun v17 z17 => if v17 = 0 then (b_m_power_143 k106 x1 x2 z17) else (b_m_power_144 k106 x1 x2 1 z17))))) else (b_m_power_160  x1 z))
def b_m_power_104 (x1 : Int32) (z : fST) : Option (Int32 × fST) := f_it (b_m_power_106) 2000 (x1, 0, z)
def b_m_power_98 (k58 : Int32 × Int32 × fST → Option (Int32 × fST)) (x1 : Int32) (x2 : Int32) (z : fST) : Option (Int32 × fST) := k58 (x1, (x2 + 1), z)
def b_m_power_58  (k58 : Int32 × Int32 × fST → Option (Int32 × fST)) (v : Int32 × Int32 × fST) : Option (Int32 × fST) := match v with
  | (x1, x2, z) => if (f_gI z 30 0 4) ≤ x2 then (b_m_power_104  x1 z) else (if (f_gI z 30 0 17) = 0 then (f_bd (F_m_get x2 2 z) (fun v8 z8 => if v8 < 105 then (b_m_power_98 k58 x1 x2 z8) else (f_bd (F_m_get x2 5 z8) (fun v10 z10 => if v10 = 0 then (f_bd (F_m_pay x2 z10) (fun v12 z12 => b_m_power_98 k58 x1 x2 z12)) else (b_m_power_98 k58 x1 x2 z10))))) else (b_m_power_104  x1 z))
def b_m_power_50 (k26 : Int32 × Int32 × fST → Option (Int32 × fST)) (x1 : Int32) (x2 : Int32) (z : fST) : Option (Int32 × fST) := k26 (x1, (x2 + 1), z)
def b_m_power_26  (k26 : Int32 × Int32 × fST → Option (Int32 × fST)) (v : Int32 × Int32 × fST) : Option (Int32 × fST) := match v with
  | (x1, x2, z) => if (f_gI z 30 0 4) ≤ x2 then (f_it (b_m_power_58) 2000 (x1, 0, z)) else (f_bd (F_m_get x2 2 z) (fun v3 z3 => if 105 ≤ v3 then (b_m_power_50 k26 x1 x2 z3) else (f_bd (F_m_forget x2 z3) (fun v5 z5 => b_m_power_50 k26 x1 x2 z5))))
def F_m_power (z : fST) : Option (Int32 × fST) := if (f_gI (f_pI z 30 0 25 0) 30 0 17) = 0 then (some (((-1)), f_pI z 30 0 25 0)) else (f_it (b_m_power_26) 2000 ((f_gI (f_pI (f_pI z 30 0 25 0) 30 0 17 0) 30 0 19), 0, f_pI (f_pI z 30 0 25 0) 30 0 17 0))
def b_m_rest_27  (k27 : Int32 × Int32 × Int32 × fST → Option (Int32 × fST)) (v : Int32 × Int32 × Int32 × fST) : Option (Int32 × fST) := match v with
  | (x0, x3, x4, z) => if x4 ≤ 0 then (some (x3, z)) else (f_gd (decide (¬ x4 = 0)) (k27 (x0, (((10 * x3) + ((x0 / x4) - (x0 / x4) / 10 * 10)) - ((10 * x3) + ((x0 / x4) - (x0 / x4) / 10 * 10)) / 97 * 97), (x4 / 10), z)))
def b_m_rest_8  (k8 : Int32 × Int32 × Int32 × Int32 × Int32 × fST → Option (Int32 × fST)) (v : Int32 × Int32 × Int32 × Int32 × Int32 × fST) : Option (Int32 × fST) := match v with
  | (x0, x1, x3, x4, x5, z) => if x1 ≤ x5 then (f_it (b_m_rest_27) 2000 (x0, x3, x4, z)) else (k8 (x0, x1, x3, (10 * x4), (x5 + 1), z))
def F_m_rest (a0 : Int32) (a1 : Int32) (a2 : Int32) (z : fST) : Option (Int32 × fST) := f_it (b_m_rest_8) 2000 (a0, a1, a2, 1, 1, z)
def F_m_endOf (a1 : Int32) (z : fST) : Option (Int32 × fST) := f_gd (f_ib a1 60) (f_gd (f_ib a1 60) (f_bd (F_m_rest (f_gI z 37 0 (f_ix a1)) 6 0 z) (fun v3 z3 => f_bd (F_m_rest (f_gI z 38 0 (f_ix a1)) 6 v3 z3) (fun v4 z4 => f_bd (F_m_rest 3700 4 v4 z4) (fun v5 z5 => some ((98 - v5), z5))))))
def b_m_check_26 (x1 : Int32) (x2 : Int32) (y1 : Int32) (z : fST) : Option (Int32 × fST) := f_bd (F_m_fails y1 1 z) (fun v5 z5 => if v5 = 0 then (if ((x2 / 100) - (x2 / 100) / 100 * 100) = 37 then (f_bd (F_m_rest x1 8 0 z5) (fun v8 z8 => f_bd (F_m_rest x2 8 v8 z8) (fun v9 z9 => if v9 = 1 then (some (1, z9)) else (some (0, z9))))) else (some (0, z5))) else (some (0, z5)))
def b_m_check_21 (x1 : Int32) (x2 : Int32) (z : fST) : Option (Int32 × fST) := b_m_check_26 x1 x2 1 z
def F_m_check (a1 : Int32) (a2 : Int32) (z : fST) : Option (Int32 × fST) := f_bd (F_m_within a1 0 99999999 z) (fun v1 z1 => if v1 = 0 then (b_m_check_21 a1 a2 z1) else (f_bd (F_m_within a2 0 99999999 z1) (fun v3 z3 => if v3 = 0 then (b_m_check_21 a1 a2 z3) else (b_m_check_26 a1 a2 0 z3))))
def b_m_about_26 (x2 : Int32) (x3 : Int32) (y1 : Int32) (z : fST) : Option (Int32 × fST) := f_bd (F_m_fails y1 1 z) (fun v5 z5 => if v5 = 0 then (if x2 = 0 then (f_gd (f_ib x3 60) (some ((f_gI z5 38 0 (f_ix x3)), z5))) else (if x2 = 1 then (f_gd (f_ib x3 60) (f_gd (f_ib x3 60) (some (((100 * (f_gI z5 37 0 (f_ix x3))) + ((f_gI z5 38 0 (f_ix x3)) / 10000)), z5)))) else (if x2 = 2 then (f_gd (f_ib x3 60) (f_bd (F_m_endOf x3 z5) (fun v16 z16 => some ((((((f_gI z5 38 0 (f_ix x3)) - (f_gI z5 38 0 (f_ix x3)) / 10000 * 10000) * 10000) + 3700) + v16), z16)))) else (f_gd (f_ib x3 60) (if (f_gI z5 39 0 (f_ix x3)) = 0 then (some (0, z5)) else (some (1, z5))))))) else (some (0, z5)))
def b_m_about_21 (x2 : Int32) (x3 : Int32) (z : fST) : Option (Int32 × fST) := b_m_about_26 x2 x3 1 z
def F_m_about (a1 : Int32) (a2 : Int32) (z : fST) : Option (Int32 × fST) := f_bd (F_m_voucherAt a1 z) (fun v1 z1 => if v1 = ((-1)) then (b_m_about_21 a2 v1 z1) else (f_bd (F_m_within a2 0 3 z1) (fun v3 z3 => if v3 = 0 then (b_m_about_21 a2 v1 z3) else (b_m_about_26 a2 v1 0 z3))))
def b_m_container_27 (x2 : Int32) (x3 : Int32) (y1 : Int32) (z : fST) : Option (Int32 × fST) := f_bd (F_m_fails y1 1 z) (fun v5 z5 => if v5 = 0 then (if x2 = 0 then (f_bd (F_m_get x3 2 z5) (fun v10 z10 => some (v10, z10))) else (if x2 = 1 then (f_bd (F_m_get x3 1 z5) (fun v12 z12 => some (v12, z12))) else (if x2 = 2 then (f_bd (F_m_get x3 3 z5) (fun v14 z14 => some (v14, z14))) else (if x2 = 3 then (f_bd (F_m_get x3 4 z5) (fun v16 z16 => some (v16, z16))) else (if x2 = 4 then (f_bd (F_m_get x3 5 z5) (fun v18 z18 => some (v18, z18))) else (if x2 = 5 then (f_bd (F_m_get x3 7 z5) (fun v20 z20 => some (v20, z20))) else (f_bd (F_m_get x3 8 z5) (fun v21 z21 => some (v21, z21))))))))) else (some (0, z5)))
def b_m_container_22 (x2 : Int32) (x3 : Int32) (z : fST) : Option (Int32 × fST) := b_m_container_27 x2 x3 1 z
def F_m_container (a1 : Int32) (a2 : Int32) (z : fST) : Option (Int32 × fST) := f_bd (F_m_find a1 z) (fun v1 z1 => if v1 = ((-1)) then (b_m_container_22 a2 v1 z1) else (f_bd (F_m_within a2 0 6 z1) (fun v3 z3 => if v3 = 0 then (b_m_container_22 a2 v1 z3) else (b_m_container_27 a2 v1 0 z3))))
def F_m_belt (a1 : Int32) (z : fST) : Option (Int32 × fST) := if a1 < 0 then (some (((-1)), f_pI z 30 0 25 0)) else (if (f_gI (f_pI z 30 0 25 0) 30 0 4) ≤ a1 then (some (((-1)), f_pI z 30 0 25 0)) else (f_bd (F_m_get a1 0 (f_pI z 30 0 25 0)) (fun v3 z3 => some (v3, z3))))
def b_m_bin_24 (x1 : Int32) (x2 : Int32) (y1 : Int32) (z : fST) : Option (Int32 × fST) := f_bd (F_m_fails y1 1 z) (fun v5 z5 => if v5 = 0 then (if x2 = 0 then (f_gd (f_ib x1 3) (some ((f_gI z5 35 0 (f_ix x1)), z5))) else (f_gd (f_ib x1 3) (some ((f_gI z5 36 0 (f_ix x1)), z5)))) else (some (0, z5)))
def b_m_bin_19 (x1 : Int32) (x2 : Int32) (z : fST) : Option (Int32 × fST) := b_m_bin_24 x1 x2 1 z
def F_m_bin (a1 : Int32) (a2 : Int32) (z : fST) : Option (Int32 × fST) := f_bd (F_m_within a1 0 2 z) (fun v1 z1 => if v1 = 0 then (b_m_bin_19 a1 a2 z1) else (f_bd (F_m_within a2 0 1 z1) (fun v3 z3 => if v3 = 0 then (b_m_bin_19 a1 a2 z3) else (b_m_bin_24 a1 a2 0 z3))))
def b_m_total_42 (x1 : Int32) (z : fST) : Option (Int32 × fST) := if x1 = 0 then (some ((f_gI z 30 0 8), z)) else (if x1 = 10 then (some ((f_gI z 30 0 21), z)) else (if x1 = 11 then (some ((f_gI z 30 0 22), z)) else (if x1 = 12 then (some ((f_gI z 30 0 23), z)) else (if x1 = 13 then (some ((f_gI z 30 0 24), z)) else (if x1 = 14 then (some ((f_gI z 30 0 12), z)) else (if x1 = 15 then (some ((f_gI z 30 0 4), z)) else (if x1 = 16 then (if (f_gI z 30 0 17) = 0 then (some (1, z)) else (some (0, z))) else (if x1 = 17 then (f_bd (F_m_isBlocked z) (fun v20 z20 => if v20 = 0 then (some (0, z20)) else (some (1, z20)))) else (if x1 = 18 then (f_bd (F_m_isSuspicious z) (fun v23 z23 => if v23 = 0 then (some (0, z23)) else (some (1, z23)))) else (if x1 = 19 then (some ((f_gI z 30 0 19), z)) else (some ((f_gI z 30 0 18), z))))))))))))
def b_m_total_16 (x1 : Int32) (y1 : Int32) (z : fST) : Option (Int32 × fST) := f_bd (F_m_fails y1 1 z) (fun v3 z3 => if v3 = 0 then (if x1 ≤ 0 then (b_m_total_42 x1 z3) else (if 10 ≤ x1 then (b_m_total_42 x1 z3) else (f_gd (f_ib x1 10) (some ((f_gI z3 41 0 (f_ix x1)), z3))))) else (some (0, z3)))
def F_m_total (a1 : Int32) (z : fST) : Option (Int32 × fST) := f_bd (F_m_within a1 0 20 z) (fun v1 z1 => if v1 = 0 then (b_m_total_16 a1 1 z1) else (b_m_total_16 a1 0 z1))
end
section
/-! contracts: the method does what its pure function says -/
set_option maxRecDepth 100000 in
set_option maxHeartbeats 4000000 in
theorem c_b_requireOn_ok (l : Launch) (hl0 : l.stackTraces = false) {L : Nat → Nat → Nat} {Ar : Nat → ClassId} {D : va_G} {b0 : Nat} (hLi : f_L L b0)   (z : fST) (r : Unit ⊕ Nat) (z' : fST) (hF : F_b_requireOn  z = some (r, z')) : f_C l y_b_requireOn wt 7 1 L Ar D b0 [.ref (L 0 0)] z (f_ov r) z' := by
  refine f_ofW (cc := c_b_requireOn) (maxL := 1) (ret := (Option.none : Option Jvm.ClassFile.FieldType)) (by decide) w_b_requireOn (Nat.le_of_ble_eq_true rfl) ?_
  intro p e s m args below meth c R hRf hRl hRc hRs hx hb hr hlk hml hno hts hown hK hZ hsz
  intro H locs ls cells slots hW hS hl hc hs
  have hl : lv_has ls 1 [(0, .ref (L 0 0))] := hl
  unfold F_b_requireOn at hF
  refine lv_aload_n hx hb d_b_requireOn_0 rfl (lv_at hl 0 rfl) ?_
  refine hw_get (k := 0) (i := 0) (n := 1) (j := 4) (v := .ref (L 23 0)) hx hb hts hown hK hW fl_b_40 rfl (by omega) rfl d_b_requireOn_1 ?_
  refine hw_get (k := 23) (i := 0) (n := 1) (j := 2) (v := .int (f_gI z 23 0 2)) hx hb hts hown hK hW fl_b_116 rfl (by omega) rfl d_b_requireOn_4 ?_
  refine lv_if_ne (tgt := 18) hx hb d_b_requireOn_7 (by decide) (fun h1 => ?_) (fun h1 => ?_)
  · have hF := (if_neg h1).symm.trans hF
    exact hw_vretX hx hb hr hlk hW hS (by omega) (by omega) d_b_requireOn_18 hF
  · have hF := (if_pos h1).symm.trans hF
    exact hw_throw (g := f_ov) hl0 hx hb hts hown hlk hml hno hZ hsz rfl tw_b_248_250 hW hS hl.1 d_b_requireOn_10 d_b_requireOn_13 d_b_requireOn_14 d_b_requireOn_17 (by omega) (by simp only [List.map, List.sum_cons, List.sum_nil, Value.category]; omega) (by omega) (by omega) (by omega) (by omega) hF
set_option maxRecDepth 100000 in
set_option maxHeartbeats 4000000 in
theorem c_b_isIndex_ok (l : Launch) (hl0 : l.stackTraces = false) {L : Nat → Nat → Nat} {Ar : Nat → ClassId} {D : va_G} {b0 : Nat} (hLi : f_L L b0) (a0 : Int32) (a1 : Int32)  (z : fST) (r : Int32) (z' : fST) (hF : F_b_isIndex a0 a1 z = some (r, z')) : f_C l y_b_isIndex wt 1 0 L Ar D b0 [.int a0, .int a1] z (.inl (some (.int r))) z' := by
  refine f_ofW (cc := c_b_isIndex) (maxL := 2) (ret := (some FieldType.boolean)) (by decide) w_b_isIndex (Nat.le_of_ble_eq_true rfl) ?_
  intro p e s m args below meth c R hRf hRl hRc hRs hx hb hr hlk hml hno hts hown hK hZ hsz
  intro H locs ls cells slots hW hS hl hc hs
  have hl : lv_has ls 2 [(0, .int a0), (1, .int a1)] := hl
  unfold F_b_isIndex at hF
  refine lv_iload_n hx hb d_b_isIndex_0 rfl (lv_at hl 0 rfl) ?_
  refine lv_if_lt (tgt := 13) hx hb d_b_isIndex_1 (by decide) (fun h1 => ?_) (fun h1 => ?_)
  · have hF := (if_pos h1).symm.trans hF
    refine lv_iconst (v := 0) hx hb d_b_isIndex_13 (by decide) ?_
    exact hw_iret hx hb hr hlk (f_nZ (Or.inl rfl)) hW hS (by omega) (by omega) d_b_isIndex_14 hF
  · have hF := (if_neg h1).symm.trans hF
    refine lv_iload_n hx hb d_b_isIndex_4 rfl (lv_at hl 0 rfl) ?_
    refine lv_iload_n hx hb d_b_isIndex_5 rfl (lv_at hl 1 rfl) ?_
    refine lv_icmp_ge (tgt := 13) hx hb d_b_isIndex_6 (by decide) (fun h2 => ?_) (fun h2 => ?_)
    · have hF := (if_pos h2).symm.trans hF
      refine lv_iconst (v := 0) hx hb d_b_isIndex_13 (by decide) ?_
      exact hw_iret hx hb hr hlk (f_nZ (Or.inl rfl)) hW hS (by omega) (by omega) d_b_isIndex_14 hF
    · have hF := (if_neg h2).symm.trans hF
      refine lv_iconst (v := 1) hx hb d_b_isIndex_9 (by decide) ?_
      refine lv_goto (tgt := 14) hx hb d_b_isIndex_10 (by decide) ?_
      exact hw_iret hx hb hr hlk (f_nZ (Or.inr rfl)) hW hS (by omega) (by omega) d_b_isIndex_14 hF
set_option maxRecDepth 100000 in
set_option maxHeartbeats 4000000 in
theorem c_b_require_ok (l : Launch) (hl0 : l.stackTraces = false) {L : Nat → Nat → Nat} {Ar : Nat → ClassId} {D : va_G} {b0 : Nat} (hLi : f_L L b0) (a0 : Int32)  (z : fST) (r : Unit ⊕ Nat) (z' : fST) (hF : F_b_require a0 z = some (r, z')) : f_C l y_b_require wt 7 1 L Ar D b0 [.int a0] z (f_ov r) z' := by
  refine f_ofW (cc := c_b_require) (maxL := 1) (ret := (Option.none : Option Jvm.ClassFile.FieldType)) (by decide) w_b_require (Nat.le_of_ble_eq_true rfl) ?_
  intro p e s m args below meth c R hRf hRl hRc hRs hx hb hr hlk hml hno hts hown hK hZ hsz
  intro H locs ls cells slots hW hS hl hc hs
  have hl : lv_has ls 1 [(0, .int a0)] := hl
  unfold F_b_require at hF
  refine lv_iload_n hx hb d_b_require_0 rfl (lv_at hl 0 rfl) ?_
  refine lv_if_ne (tgt := 12) hx hb d_b_require_1 (by decide) (fun h1 => ?_) (fun h1 => ?_)
  · have hF := (if_neg h1).symm.trans hF
    exact hw_vretX hx hb hr hlk hW hS (by omega) (by omega) d_b_require_12 hF
  · have hF := (if_pos h1).symm.trans hF
    exact hw_throw (g := f_ov) hl0 hx hb hts hown hlk hml hno hZ hsz rfl tw_b_210_212 hW hS hl.1 d_b_require_4 d_b_require_7 d_b_require_8 d_b_require_11 (by omega) (by simp only [List.map, List.sum_cons, List.sum_nil, Value.category]; omega) (by omega) (by omega) (by omega) (by omega) hF
set_option maxRecDepth 100000 in
set_option maxHeartbeats 4000000 in
theorem c_b_isWithin_ok (l : Launch) (hl0 : l.stackTraces = false) {L : Nat → Nat → Nat} {Ar : Nat → ClassId} {D : va_G} {b0 : Nat} (hLi : f_L L b0) (a0 : Int32) (a1 : Int32) (a2 : Int32)  (z : fST) (r : Int32) (z' : fST) (hF : F_b_isWithin a0 a1 a2 z = some (r, z')) : f_C l y_b_isWithin wt 1 0 L Ar D b0 [.int a0, .int a1, .int a2] z (.inl (some (.int r))) z' := by
  refine f_ofW (cc := c_b_isWithin) (maxL := 3) (ret := (some FieldType.boolean)) (by decide) w_b_isWithin (Nat.le_of_ble_eq_true rfl) ?_
  intro p e s m args below meth c R hRf hRl hRc hRs hx hb hr hlk hml hno hts hown hK hZ hsz
  intro H locs ls cells slots hW hS hl hc hs
  have hl : lv_has ls 3 [(0, .int a0), (1, .int a1), (2, .int a2)] := hl
  unfold F_b_isWithin at hF
  refine lv_iload_n hx hb d_b_isWithin_0 rfl (lv_at hl 0 rfl) ?_
  refine lv_iload_n hx hb d_b_isWithin_1 rfl (lv_at hl 1 rfl) ?_
  refine lv_icmp_lt (tgt := 14) hx hb d_b_isWithin_2 (by decide) (fun h1 => ?_) (fun h1 => ?_)
  · have hF := (if_pos h1).symm.trans hF
    refine lv_iconst (v := 0) hx hb d_b_isWithin_14 (by decide) ?_
    exact hw_iret hx hb hr hlk (f_nZ (Or.inl rfl)) hW hS (by omega) (by omega) d_b_isWithin_15 hF
  · have hF := (if_neg h1).symm.trans hF
    refine lv_iload_n hx hb d_b_isWithin_5 rfl (lv_at hl 0 rfl) ?_
    refine lv_iload_n hx hb d_b_isWithin_6 rfl (lv_at hl 2 rfl) ?_
    refine lv_icmp_gt (tgt := 14) hx hb d_b_isWithin_7 (by decide) (fun h2 => ?_) (fun h2 => ?_)
    · have hF := (if_pos h2).symm.trans hF
      refine lv_iconst (v := 0) hx hb d_b_isWithin_14 (by decide) ?_
      exact hw_iret hx hb hr hlk (f_nZ (Or.inl rfl)) hW hS (by omega) (by omega) d_b_isWithin_15 hF
    · have hF := (if_neg h2).symm.trans hF
      refine lv_iconst (v := 1) hx hb d_b_isWithin_10 (by decide) ?_
      refine lv_goto (tgt := 15) hx hb d_b_isWithin_11 (by decide) ?_
      exact hw_iret hx hb hr hlk (f_nZ (Or.inr rfl)) hW hS (by omega) (by omega) d_b_isWithin_15 hF
set_option maxRecDepth 100000 in
set_option maxHeartbeats 4000000 in
theorem c_ca_setContour_ok (l : Launch) (hl0 : l.stackTraces = false) {L : Nat → Nat → Nat} {Ar : Nat → ClassId} {D : va_G} {b0 : Nat} (hLi : f_L L b0) (a1 : Int32) (a2 : Int32) (a3 : Int32) (a4 : Int32)  (z : fST) (r : Unit) (z' : fST) (hF : F_ca_setContour a1 a2 a3 a4 z = some (r, z')) : f_C l y_ca_setContour wt 1 0 L Ar D b0 [.ref (L 1 0), .int a1, .int a2, .int a3, .int a4] z (.inl none) z' := by
  refine f_ofW (cc := c_ca_setContour) (maxL := 7) (ret := (Option.none : Option Jvm.ClassFile.FieldType)) (by decide) w_ca_setContour (Nat.le_of_ble_eq_true rfl) ?_
  intro p e s m args below meth c R hRf hRl hRc hRs hx hb hr hlk hml hno hts hown hK hZ hsz
  have B21 : ∀ (k3 : Int32 × Int32 × Int32 × Int32 × Int32 × fST → Option (Unit × fST)) (K3 : ∀ (x1 : Int32) (x2 : Int32) (x3 : Int32) (x4 : Int32) (x5 : Int32) (z : fST), k3 (x1, x2, x3, x4, x5, z) = some (r, z') →  f_B p l e R s m args below meth c L Ar D b0 7 0 (f_E below args s L Ar D b0 0 (.inl none) z') 0 3 [(0, .ref (L 1 0)), (1, .int x1), (2, .int x2), (3, .int x3), (4, .int x4), (5, .int x5)] [] z) (x1 : Int32) (x2 : Int32) (x3 : Int32) (x4 : Int32) (x5 : Int32) (y0 : Int32) (z : fST), b_ca_setContour_21 k3 x1 x2 x3 x4 x5 y0 z = some (r, z') →  f_B p l e R s m args below meth c L Ar D b0 7 0 (f_E below args s L Ar D b0 0 (.inl none) z') 0 21 [(0, .ref (L 1 0)), (1, .int x1), (2, .int x2), (3, .int x3), (4, .int x4), (5, .int x5)] [.int y0] z := by
    intro k3 K3 x1 x2 x3 x4 x5 y0 z hF  H locs ls cells slots hW hS hl hc hs
    unfold b_ca_setContour_21 at hF
    refine lv_istore (lv' := [(6, .int y0), (0, .ref (L 1 0)), (1, .int x1), (2, .int x2), (3, .int x3), (4, .int x4), (5, .int x5)]) hx hb d_ca_setContour_21 hl (by decide) rfl (fun ls hl => ?_)
    refine lv_aload_n hx hb d_ca_setContour_23 rfl (lv_at hl 1 rfl) ?_
    refine hw_get (k := 1) (i := 0) (n := 1) (j := 6) (v := .ref (L 8 0)) hx hb hts hown hK hW fl_ca_32 rfl (by omega) rfl d_ca_setContour_24 ?_
    refine lv_iload_n hx hb d_ca_setContour_27 rfl (lv_at hl 2 rfl) ?_
    obtain ⟨g4, hF⟩ := f_gd_some hF
    have g4_lt := f_ib_lt g4
    refine hw_wald hx hb hK hW g4 d_ca_setContour_28 ?_
    refine lv_iload hx hb d_ca_setContour_29 (lv_at hl 6 rfl) ?_
    refine lv_iload hx hb d_ca_setContour_31 (lv_at hl 0 rfl) ?_
    refine lv_bipush (v := 24) hx hb d_ca_setContour_33 (by decide) ?_
    refine lv_iload hx hb d_ca_setContour_35 (lv_at hl 6 rfl) ?_
    refine lv_iconst (v := 4) hx hb d_ca_setContour_37 (by decide) ?_
    refine lv_irem hx hb d_ca_setContour_38 (by decide) ?_
    refine lv_bipush (v := 8) hx hb d_ca_setContour_39 (by decide) ?_
    refine lv_imul hx hb d_ca_setContour_41 ?_
    refine lv_isub hx hb d_ca_setContour_42 ?_
    refine lv_iushr (v := f_us y0 (24 - ((x5 - x5 / 4 * 4) * 8))) hx hb d_ca_setContour_43 rfl ?_
    refine lv_sipush (v := 255) hx hb d_ca_setContour_44 (by decide) ?_
    refine lv_iand hx hb d_ca_setContour_47 ?_
    obtain ⟨g5, hF⟩ := f_gd_some hF
    refine hw_iast (k := 9) (i := f_ix x1) (n := 8) hx hb hK hLi hW hS (by decide) rfl (by omega) rfl g5 d_ca_setContour_48 (fun H locs hW hS => ?_)
    refine lv_iinc (k := 6) (x := x5) (v := x5 + 1) (lv' := [(5, .int (x5 + 1)), (6, .int y0), (0, .ref (L 1 0)), (1, .int x1), (2, .int x2), (3, .int x3), (4, .int x4)]) hx hb d_ca_setContour_49 hl rfl rfl (by decide) rfl (fun ls hl => ?_)
    refine lv_goto (tgt := 3) hx hb d_ca_setContour_52 (by decide) ?_
    exact K3 x1 x2 x3 x4 (x5 + 1) (f_pI z 9 (f_ix x1) (f_ix x5) ((f_us y0 (24 - ((x5 - x5 / 4 * 4) * 8))) &&& 255)) hF _ _ _ _ _ hW hS (lv_sub hl [2, 3, 4, 5, 6, 0] rfl) (by omega) (by omega)
  have B3 : ∀  (n : Nat) (x1 : Int32) (x2 : Int32) (x3 : Int32) (x4 : Int32) (x5 : Int32) (z : fST), f_it (b_ca_setContour_3 ) n (x1, x2, x3, x4, x5, z) = some (r, z') →  f_B p l e R s m args below meth c L Ar D b0 7 0 (f_E below args s L Ar D b0 0 (.inl none) z') 0 3 [(0, .ref (L 1 0)), (1, .int x1), (2, .int x2), (3, .int x3), (4, .int x4), (5, .int x5)] [] z := by
    intro  n
    induction n with
    | zero => intro x1 x2 x3 x4 x5 z hF; cases hF
    | succ n ih =>
    intro x1 x2 x3 x4 x5 z hF  H locs ls cells slots hW hS hl hc hs
    have hF := f_it_s hF
    have K3 : ∀ (x1 : Int32) (x2 : Int32) (x3 : Int32) (x4 : Int32) (x5 : Int32) (z : fST), f_it (b_ca_setContour_3 ) n (x1, x2, x3, x4, x5, z) = some (r, z') →  f_B p l e R s m args below meth c L Ar D b0 7 0 (f_E below args s L Ar D b0 0 (.inl none) z') 0 3 [(0, .ref (L 1 0)), (1, .int x1), (2, .int x2), (3, .int x3), (4, .int x4), (5, .int x5)] [] z := fun x1 x2 x3 x4 x5 z hF => ih x1 x2 x3 x4 x5 z hF
    generalize f_it (b_ca_setContour_3 ) n = k3 at hF K3
    unfold b_ca_setContour_3 at hF
    dsimp only at hF
    refine lv_iload hx hb d_ca_setContour_3 (lv_at hl 5 rfl) ?_
    refine lv_bipush (v := 8) hx hb d_ca_setContour_5 (by decide) ?_
    refine lv_icmp_ge (tgt := 55) hx hb d_ca_setContour_7 (by decide) (fun h1 => ?_) (fun h1 => ?_)
    · have hF := (if_pos h1).symm.trans hF
      refine lv_aload_n hx hb d_ca_setContour_55 rfl (lv_at hl 0 rfl) ?_
      refine hw_get (k := 1) (i := 0) (n := 1) (j := 7) (v := .ref (L 10 0)) hx hb hts hown hK hW fl_ca_35 rfl (by omega) rfl d_ca_setContour_56 ?_
      refine lv_iload_n hx hb d_ca_setContour_59 rfl (lv_at hl 1 rfl) ?_
      refine lv_iload hx hb d_ca_setContour_60 (lv_at hl 4 rfl) ?_
      obtain ⟨g2, hF⟩ := f_gd_some hF
      refine hw_iast (k := 10) (i := 0) (n := 1) hx hb hK hLi hW hS (by decide) rfl (by omega) rfl g2 d_ca_setContour_62 (fun H locs hW hS => ?_)
      exact hw_vret hx hb hr hlk hW hS (by omega) (by omega) d_ca_setContour_63 hF
    · have hF := (if_neg h1).symm.trans hF
      refine lv_iload hx hb d_ca_setContour_10 (lv_at hl 5 rfl) ?_
      refine lv_iconst (v := 4) hx hb d_ca_setContour_12 (by decide) ?_
      refine lv_icmp_ge (tgt := 20) hx hb d_ca_setContour_13 (by decide) (fun h3 => ?_) (fun h3 => ?_)
      · have hF := (if_pos h3).symm.trans hF
        refine lv_iload_n hx hb d_ca_setContour_20 rfl (lv_at hl 3 rfl) ?_
        exact B21 k3 K3 x1 x2 x3 x4 x5 x3 z hF _ _ _ _ _ hW hS (lv_sub hl [0, 1, 2, 3, 4, 5] rfl) (by omega) (by omega)
      · have hF := (if_neg h3).symm.trans hF
        refine lv_iload_n hx hb d_ca_setContour_16 rfl (lv_at hl 2 rfl) ?_
        refine lv_goto (tgt := 21) hx hb d_ca_setContour_17 (by decide) ?_
        exact B21 k3 K3 x1 x2 x3 x4 x5 x2 z hF _ _ _ _ _ hW hS (lv_sub hl [0, 1, 2, 3, 4, 5] rfl) (by omega) (by omega)
  intro H locs ls cells slots hW hS hl hc hs
  have hl : lv_has ls 7 [(0, .ref (L 1 0)), (1, .int a1), (2, .int a2), (3, .int a3), (4, .int a4)] := hl
  unfold F_ca_setContour at hF
  refine lv_iconst (v := 0) hx hb d_ca_setContour_0 (by decide) ?_
  refine lv_istore (lv' := [(5, .int 0), (0, .ref (L 1 0)), (1, .int a1), (2, .int a2), (3, .int a3), (4, .int a4)]) hx hb d_ca_setContour_1 hl (by decide) rfl (fun ls hl => ?_)
  exact B3 2000 a1 a2 a3 a4 0 z hF _ _ _ _ _ hW hS (lv_sub hl [1, 2, 3, 4, 5, 0] rfl) (by omega) (by omega)
set_option maxRecDepth 100000 in
set_option maxHeartbeats 4000000 in
theorem c_b_contour_ok (l : Launch) (hl0 : l.stackTraces = false) {L : Nat → Nat → Nat} {Ar : Nat → ClassId} {D : va_G} {b0 : Nat} (hLi : f_L L b0) (a1 : Int32) (a2 : Int32) (a3 : Int32) (a4 : Int32)  (z : fST) (r : Unit ⊕ Nat) (z' : fST) (hF : F_b_contour a1 a2 a3 a4 z = some (r, z')) : f_C l y_b_contour wt 8 3 L Ar D b0 [.ref (L 0 0), .int a1, .int a2, .int a3, .int a4] z (f_ov r) z' := by
  refine f_ofW (cc := c_b_contour) (maxL := 5) (ret := (Option.none : Option Jvm.ClassFile.FieldType)) (by decide) w_b_contour (Nat.le_of_ble_eq_true rfl) ?_
  intro p e s m args below meth c R hRf hRl hRc hRs hx hb hr hlk hml hno hts hown hK hZ hsz
  intro H locs ls cells slots hW hS hl hc hs
  have hl : lv_has ls 5 [(0, .ref (L 0 0)), (1, .int a1), (2, .int a2), (3, .int a3), (4, .int a4)] := hl
  unfold F_b_contour at hF
  refine lv_aload_n hx hb d_b_contour_0 rfl (lv_at hl 0 rfl) ?_
  rcases f_bx_some hF with ⟨v1, z1, hc1, hF⟩ | ⟨v1, z1, hc1, hF⟩
  · skip
    refine hw_VR (k := 0) (i := 0) (nk := 1) (As := []) (rest := []) hx hb hml hown hts (c_b_requireOn_ok l hl0 hLi   _ _ _ hc1) st_b_55 (by decide) rfl (by omega) rfl rfl hK hZ hsz hS hW rfl hl.1 (Nat.le_of_ble_eq_true rfl) d_b_contour_1 (by omega) (by omega) (by omega) (by omega) (fun H locs hW hS => ?_)
    refine lv_iload_n hx hb d_b_contour_4 rfl (lv_at hl 1 rfl) ?_
    refine lv_bipush (v := 8) hx hb d_b_contour_5 (by decide) ?_
    obtain ⟨v2, z2, hc2, hF⟩ := f_bd_some hF
    refine hw_SR (As := [.int a1, .int 8]) (rest := []) hx hb hml hown hts (c_b_isIndex_ok l hl0 hLi a1 8  _ _ _ hc2) st_b_58 hK hZ hsz hS hW rfl hl.1 (Nat.le_of_ble_eq_true rfl) d_b_contour_7 (by omega) (by omega) (by omega) (by omega) (fun H locs hW hS => ?_)
    rcases f_bx_some hF with ⟨v3, z3, hc3, hF⟩ | ⟨v3, z3, hc3, hF⟩
    · skip
      refine hw_SR (As := [.int v2]) (rest := []) hx hb hml hown hts (c_b_require_ok l hl0 hLi v2  _ _ _ hc3) st_b_62 hK hZ hsz hS hW rfl hl.1 (Nat.le_of_ble_eq_true rfl) d_b_contour_10 (by omega) (by omega) (by omega) (by omega) (fun H locs hW hS => ?_)
      refine lv_iload hx hb d_b_contour_13 (lv_at hl 4 rfl) ?_
      refine lv_iconst (v := 0) hx hb d_b_contour_15 (by decide) ?_
      refine lv_sipush (v := 2040) hx hb d_b_contour_16 (by decide) ?_
      obtain ⟨v4, z4, hc4, hF⟩ := f_bd_some hF
      refine hw_SR (As := [.int a4, .int 0, .int 2040]) (rest := []) hx hb hml hown hts (c_b_isWithin_ok l hl0 hLi a4 0 2040  _ _ _ hc4) st_b_66 hK hZ hsz hS hW rfl hl.1 (Nat.le_of_ble_eq_true rfl) d_b_contour_19 (by omega) (by omega) (by omega) (by omega) (fun H locs hW hS => ?_)
      rcases f_bx_some hF with ⟨v5, z5, hc5, hF⟩ | ⟨v5, z5, hc5, hF⟩
      · skip
        refine hw_SR (As := [.int v4]) (rest := []) hx hb hml hown hts (c_b_require_ok l hl0 hLi v4  _ _ _ hc5) st_b_62 hK hZ hsz hS hW rfl hl.1 (Nat.le_of_ble_eq_true rfl) d_b_contour_22 (by omega) (by omega) (by omega) (by omega) (fun H locs hW hS => ?_)
        refine lv_aload_n hx hb d_b_contour_25 rfl (lv_at hl 0 rfl) ?_
        refine hw_get (k := 0) (i := 0) (n := 1) (j := 0) (v := .ref (L 1 0)) hx hb hts hown hK hW fl_b_12 rfl (by omega) rfl d_b_contour_26 ?_
        refine lv_iload_n hx hb d_b_contour_29 rfl (lv_at hl 1 rfl) ?_
        refine lv_iload_n hx hb d_b_contour_30 rfl (lv_at hl 2 rfl) ?_
        refine lv_iload_n hx hb d_b_contour_31 rfl (lv_at hl 3 rfl) ?_
        refine lv_iload hx hb d_b_contour_32 (lv_at hl 4 rfl) ?_
        obtain ⟨v6, z6, hc6, hF⟩ := f_bd_some hF
        refine hw_VR (k := 1) (i := 0) (nk := 1) (As := [.int a1, .int a2, .int a3, .int a4]) (rest := []) hx hb hml hown hts (c_ca_setContour_ok l hl0 hLi a1 a2 a3 a4  _ _ _ hc6) st_b_70 (by decide) rfl (by omega) rfl rfl hK hZ hsz hS hW rfl hl.1 (Nat.le_of_ble_eq_true rfl) d_b_contour_34 (by omega) (by omega) (by omega) (by omega) (fun H locs hW hS => ?_)
        exact hw_vretX hx hb hr hlk hW hS (by omega) (by omega) d_b_contour_37 hF
      · cases hF
        exact hw_SX (As := [.int v4]) (rest := []) hx hb hml hown hts (c_b_require_ok l hl0 hLi v4  _ _ _ hc5) st_b_62 hK hZ hsz hS hW rfl hl.1 (Nat.le_of_ble_eq_true rfl) d_b_contour_22 (by omega) (by omega) (by omega) (by omega) (fun q ce H locs hW hS hq hv hcl => hw_out (fun x hx => (hno x hx).elim) hlk hW hS hq hv hcl (by omega) (by omega))
    · cases hF
      exact hw_SX (As := [.int v2]) (rest := []) hx hb hml hown hts (c_b_require_ok l hl0 hLi v2  _ _ _ hc3) st_b_62 hK hZ hsz hS hW rfl hl.1 (Nat.le_of_ble_eq_true rfl) d_b_contour_10 (by omega) (by omega) (by omega) (by omega) (fun q ce H locs hW hS hq hv hcl => hw_out (fun x hx => (hno x hx).elim) hlk hW hS hq hv hcl (by omega) (by omega))
  · cases hF
    exact hw_VX (k := 0) (i := 0) (nk := 1) (As := []) (rest := []) hx hb hml hown hts (c_b_requireOn_ok l hl0 hLi   _ _ _ hc1) st_b_55 (by decide) rfl (by omega) rfl rfl hK hZ hsz hS hW rfl hl.1 (Nat.le_of_ble_eq_true rfl) d_b_contour_1 (by omega) (by omega) (by omega) (by omega) (fun q ce H locs hW hS hq hv hcl => hw_out (fun x hx => (hno x hx).elim) hlk hW hS hq hv hcl (by omega) (by omega))
set_option maxRecDepth 100000 in
set_option maxHeartbeats 4000000 in
theorem c_b_requireEmptyBelt_ok (l : Launch) (hl0 : l.stackTraces = false) {L : Nat → Nat → Nat} {Ar : Nat → ClassId} {D : va_G} {b0 : Nat} (hLi : f_L L b0)   (z : fST) (r : Unit ⊕ Nat) (z' : fST) (hF : F_b_requireEmptyBelt  z = some (r, z')) : f_C l y_b_requireEmptyBelt wt 7 1 L Ar D b0 [.ref (L 0 0)] z (f_ov r) z' := by
  refine f_ofW (cc := c_b_requireEmptyBelt) (maxL := 1) (ret := (Option.none : Option Jvm.ClassFile.FieldType)) (by decide) w_b_requireEmptyBelt (Nat.le_of_ble_eq_true rfl) ?_
  intro p e s m args below meth c R hRf hRl hRc hRs hx hb hr hlk hml hno hts hown hK hZ hsz
  intro H locs ls cells slots hW hS hl hc hs
  have hl : lv_has ls 1 [(0, .ref (L 0 0))] := hl
  unfold F_b_requireEmptyBelt at hF
  refine lv_aload_n hx hb d_b_requireEmptyBelt_0 rfl (lv_at hl 0 rfl) ?_
  refine hw_get (k := 0) (i := 0) (n := 1) (j := 1) (v := .ref (L 11 0)) hx hb hts hown hK hW fl_b_19 rfl (by omega) rfl d_b_requireEmptyBelt_1 ?_
  refine hw_get (k := 11) (i := 0) (n := 1) (j := 1) (v := .int (f_gI z 11 0 1)) hx hb hts hown hK hW fl_b_127 rfl (by omega) rfl d_b_requireEmptyBelt_4 ?_
  refine lv_if_le (tgt := 18) hx hb d_b_requireEmptyBelt_7 (by decide) (fun h1 => ?_) (fun h1 => ?_)
  · have hF := (if_pos h1).symm.trans hF
    exact hw_vretX hx hb hr hlk hW hS (by omega) (by omega) d_b_requireEmptyBelt_18 hF
  · have hF := (if_neg h1).symm.trans hF
    exact hw_throw (g := f_ov) hl0 hx hb hts hown hlk hml hno hZ hsz rfl tw_b_248_250 hW hS hl.1 d_b_requireEmptyBelt_10 d_b_requireEmptyBelt_13 d_b_requireEmptyBelt_14 d_b_requireEmptyBelt_17 (by omega) (by simp only [List.map, List.sum_cons, List.sum_nil, Value.category]; omega) (by omega) (by omega) (by omega) (by omega) hF
set_option maxRecDepth 100000 in
set_option maxHeartbeats 4000000 in
theorem c_ca_kindWith_ok (l : Launch) (hl0 : l.stackTraces = false) {L : Nat → Nat → Nat} {Ar : Nat → ClassId} {D : va_G} {b0 : Nat} (hLi : f_L L b0) (a1 : Int32)  (z : fST) (r : Int32) (z' : fST) (hF : F_ca_kindWith a1 z = some (r, z')) : f_C l y_ca_kindWith wt 1 0 L Ar D b0 [.ref (L 1 0), .int a1] z (.inl (some (.int r))) z' := by
  refine f_ofW (cc := c_ca_kindWith) (maxL := 3) (ret := (some FieldType.int)) (by decide) w_ca_kindWith (Nat.le_of_ble_eq_true rfl) ?_
  intro p e s m args below meth c R hRf hRl hRc hRs hx hb hr hlk hml hno hts hown hK hZ hsz
  have B2 : ∀  (n : Nat) (x1 : Int32) (x2 : Int32) (z : fST), f_it (b_ca_kindWith_2 ) n (x1, x2, z) = some (r, z') →  f_B p l e R s m args below meth c L Ar D b0 3 0 (f_E below args s L Ar D b0 0 (.inl (some (.int r))) z') 0 2 [(0, .ref (L 1 0)), (1, .int x1), (2, .int x2)] [] z := by
    intro  n
    induction n with
    | zero => intro x1 x2 z hF; cases hF
    | succ n ih =>
    intro x1 x2 z hF  H locs ls cells slots hW hS hl hc hs
    have hF := f_it_s hF
    have K2 : ∀ (x1 : Int32) (x2 : Int32) (z : fST), f_it (b_ca_kindWith_2 ) n (x1, x2, z) = some (r, z') →  f_B p l e R s m args below meth c L Ar D b0 3 0 (f_E below args s L Ar D b0 0 (.inl (some (.int r))) z') 0 2 [(0, .ref (L 1 0)), (1, .int x1), (2, .int x2)] [] z := fun x1 x2 z hF => ih x1 x2 z hF
    generalize f_it (b_ca_kindWith_2 ) n = k2 at hF K2
    unfold b_ca_kindWith_2 at hF
    dsimp only at hF
    refine lv_iload_n hx hb d_ca_kindWith_2 rfl (lv_at hl 2 rfl) ?_
    refine lv_bipush (v := 40) hx hb d_ca_kindWith_3 (by decide) ?_
    refine lv_icmp_ge (tgt := 26) hx hb d_ca_kindWith_5 (by decide) (fun h1 => ?_) (fun h1 => ?_)
    · have hF := (if_pos h1).symm.trans hF
      refine lv_iconst (v := (-1)) hx hb d_ca_kindWith_26 (by decide) ?_
      exact hw_iret hx hb hr hlk (vp_nar_int _) hW hS (by omega) (by omega) d_ca_kindWith_27 hF
    · have hF := (if_neg h1).symm.trans hF
      refine lv_aload_n hx hb d_ca_kindWith_8 rfl (lv_at hl 0 rfl) ?_
      refine hw_get (k := 1) (i := 0) (n := 1) (j := 0) (v := .ref (L 2 0)) hx hb hts hown hK hW fl_ca_9 rfl (by omega) rfl d_ca_kindWith_9 ?_
      refine lv_iload_n hx hb d_ca_kindWith_12 rfl (lv_at hl 2 rfl) ?_
      obtain ⟨g2, hF⟩ := f_gd_some hF
      refine hw_iald (k := 2) (i := 0) (n := 1) hx hb hK hW (by decide) rfl (by omega) rfl g2 d_ca_kindWith_13 ?_
      refine lv_iload_n hx hb d_ca_kindWith_14 rfl (lv_at hl 1 rfl) ?_
      refine lv_icmp_ne (tgt := 20) hx hb d_ca_kindWith_15 (by decide) (fun h3 => ?_) (fun h3 => ?_)
      · have hF := (if_neg h3).symm.trans hF
        refine lv_iinc (k := 2) (x := x2) (v := x2 + 1) (lv' := [(2, .int (x2 + 1)), (0, .ref (L 1 0)), (1, .int x1)]) hx hb d_ca_kindWith_20 hl rfl rfl (by decide) rfl (fun ls hl => ?_)
        refine lv_goto (tgt := 2) hx hb d_ca_kindWith_23 (by decide) ?_
        exact K2 x1 (x2 + 1) z hF _ _ _ _ _ hW hS (lv_sub hl [1, 2, 0] rfl) (by omega) (by omega)
      · have hF := (if_pos h3).symm.trans hF
        refine lv_iload_n hx hb d_ca_kindWith_18 rfl (lv_at hl 2 rfl) ?_
        exact hw_iret hx hb hr hlk (vp_nar_int _) hW hS (by omega) (by omega) d_ca_kindWith_19 hF
  intro H locs ls cells slots hW hS hl hc hs
  have hl : lv_has ls 3 [(0, .ref (L 1 0)), (1, .int a1)] := hl
  unfold F_ca_kindWith at hF
  refine lv_iconst (v := 0) hx hb d_ca_kindWith_0 (by decide) ?_
  refine lv_istore_n (lv' := [(2, .int 0), (0, .ref (L 1 0)), (1, .int a1)]) hx hb d_ca_kindWith_1 rfl hl (by decide) rfl (fun ls hl => ?_)
  exact B2 2000 a1 0 z hF _ _ _ _ _ hW hS (lv_sub hl [1, 2, 0] rfl) (by omega) (by omega)
set_option maxRecDepth 100000 in
set_option maxHeartbeats 4000000 in
theorem c_ca_dropCode_ok (l : Launch) (hl0 : l.stackTraces = false) {L : Nat → Nat → Nat} {Ar : Nat → ClassId} {D : va_G} {b0 : Nat} (hLi : f_L L b0) (a1 : Int32)  (z : fST) (r : Unit) (z' : fST) (hF : F_ca_dropCode a1 z = some (r, z')) : f_C l y_ca_dropCode wt 1 0 L Ar D b0 [.ref (L 1 0), .int a1] z (.inl none) z' := by
  refine f_ofW (cc := c_ca_dropCode) (maxL := 2) (ret := (Option.none : Option Jvm.ClassFile.FieldType)) (by decide) w_ca_dropCode (Nat.le_of_ble_eq_true rfl) ?_
  intro p e s m args below meth c R hRf hRl hRc hRs hx hb hr hlk hml hno hts hown hK hZ hsz
  intro H locs ls cells slots hW hS hl hc hs
  have hl : lv_has ls 2 [(0, .ref (L 1 0)), (1, .int a1)] := hl
  unfold F_ca_dropCode at hF
  refine lv_iload_n hx hb d_ca_dropCode_0 rfl (lv_at hl 1 rfl) ?_
  refine lv_iconst (v := (-1)) hx hb d_ca_dropCode_1 (by decide) ?_
  refine lv_icmp_eq (tgt := 12) hx hb d_ca_dropCode_2 (by decide) (fun h1 => ?_) (fun h1 => ?_)
  · have hF := (if_pos h1).symm.trans hF
    exact hw_vret hx hb hr hlk hW hS (by omega) (by omega) d_ca_dropCode_12 hF
  · have hF := (if_neg h1).symm.trans hF
    refine lv_aload_n hx hb d_ca_dropCode_5 rfl (lv_at hl 0 rfl) ?_
    refine hw_get (k := 1) (i := 0) (n := 1) (j := 0) (v := .ref (L 2 0)) hx hb hts hown hK hW fl_ca_9 rfl (by omega) rfl d_ca_dropCode_6 ?_
    refine lv_iload_n hx hb d_ca_dropCode_9 rfl (lv_at hl 1 rfl) ?_
    refine lv_iconst (v := 0) hx hb d_ca_dropCode_10 (by decide) ?_
    obtain ⟨g2, hF⟩ := f_gd_some hF
    refine hw_iast (k := 2) (i := 0) (n := 1) hx hb hK hLi hW hS (by decide) rfl (by omega) rfl g2 d_ca_dropCode_11 (fun H locs hW hS => ?_)
    exact hw_vret hx hb hr hlk hW hS (by omega) (by omega) d_ca_dropCode_12 hF
set_option maxRecDepth 100000 in
set_option maxHeartbeats 4000000 in
theorem c_ca_setKind_ok (l : Launch) (hl0 : l.stackTraces = false) {L : Nat → Nat → Nat} {Ar : Nat → ClassId} {D : va_G} {b0 : Nat} (hLi : f_L L b0) (a1 : Int32) (a2 : Int32) (a3 : Int32) (a4 : Int32) (a5 : Int32) (a6 : Int32) (a7 : Int32)  (z : fST) (r : Unit) (z' : fST) (hF : F_ca_setKind a1 a2 a3 a4 a5 a6 a7 z = some (r, z')) : f_C l y_ca_setKind wt 1 0 L Ar D b0 [.ref (L 1 0), .int a1, .int a2, .int a3, .int a4, .int a5, .int a6, .int a7] z (.inl none) z' := by
  refine f_ofW (cc := c_ca_setKind) (maxL := 8) (ret := (Option.none : Option Jvm.ClassFile.FieldType)) (by decide) w_ca_setKind (Nat.le_of_ble_eq_true rfl) ?_
  intro p e s m args below meth c R hRf hRl hRc hRs hx hb hr hlk hml hno hts hown hK hZ hsz
  intro H locs ls cells slots hW hS hl hc hs
  have hl : lv_has ls 8 [(0, .ref (L 1 0)), (1, .int a1), (2, .int a2), (3, .int a3), (4, .int a4), (5, .int a5), (6, .int a6), (7, .int a7)] := hl
  unfold F_ca_setKind at hF
  refine lv_aload_n hx hb d_ca_setKind_0 rfl (lv_at hl 0 rfl) ?_
  refine hw_get (k := 1) (i := 0) (n := 1) (j := 0) (v := .ref (L 2 0)) hx hb hts hown hK hW fl_ca_9 rfl (by omega) rfl d_ca_setKind_1 ?_
  refine lv_iload_n hx hb d_ca_setKind_4 rfl (lv_at hl 1 rfl) ?_
  refine lv_iload_n hx hb d_ca_setKind_5 rfl (lv_at hl 2 rfl) ?_
  obtain ⟨g1, hF⟩ := f_gd_some hF
  refine hw_iast (k := 2) (i := 0) (n := 1) hx hb hK hLi hW hS (by decide) rfl (by omega) rfl g1 d_ca_setKind_6 (fun H locs hW hS => ?_)
  refine lv_aload_n hx hb d_ca_setKind_7 rfl (lv_at hl 0 rfl) ?_
  refine hw_get (k := 1) (i := 0) (n := 1) (j := 1) (v := .ref (L 3 0)) hx hb hts hown hK hW fl_ca_15 rfl (by omega) rfl d_ca_setKind_8 ?_
  refine lv_iload_n hx hb d_ca_setKind_11 rfl (lv_at hl 1 rfl) ?_
  refine lv_iload_n hx hb d_ca_setKind_12 rfl (lv_at hl 3 rfl) ?_
  obtain ⟨g2, hF⟩ := f_gd_some hF
  refine hw_iast (k := 3) (i := 0) (n := 1) hx hb hK hLi hW hS (by decide) rfl (by omega) rfl g2 d_ca_setKind_13 (fun H locs hW hS => ?_)
  refine lv_aload_n hx hb d_ca_setKind_14 rfl (lv_at hl 0 rfl) ?_
  refine hw_get (k := 1) (i := 0) (n := 1) (j := 2) (v := .ref (L 4 0)) hx hb hts hown hK hW fl_ca_18 rfl (by omega) rfl d_ca_setKind_15 ?_
  refine lv_iload_n hx hb d_ca_setKind_18 rfl (lv_at hl 1 rfl) ?_
  refine lv_iload hx hb d_ca_setKind_19 (lv_at hl 4 rfl) ?_
  obtain ⟨g3, hF⟩ := f_gd_some hF
  refine hw_iast (k := 4) (i := 0) (n := 1) hx hb hK hLi hW hS (by decide) rfl (by omega) rfl g3 d_ca_setKind_21 (fun H locs hW hS => ?_)
  refine lv_aload_n hx hb d_ca_setKind_22 rfl (lv_at hl 0 rfl) ?_
  refine hw_get (k := 1) (i := 0) (n := 1) (j := 3) (v := .ref (L 5 0)) hx hb hts hown hK hW fl_ca_21 rfl (by omega) rfl d_ca_setKind_23 ?_
  refine lv_iload_n hx hb d_ca_setKind_26 rfl (lv_at hl 1 rfl) ?_
  refine lv_iload hx hb d_ca_setKind_27 (lv_at hl 5 rfl) ?_
  obtain ⟨g4, hF⟩ := f_gd_some hF
  refine hw_iast (k := 5) (i := 0) (n := 1) hx hb hK hLi hW hS (by decide) rfl (by omega) rfl g4 d_ca_setKind_29 (fun H locs hW hS => ?_)
  refine lv_aload_n hx hb d_ca_setKind_30 rfl (lv_at hl 0 rfl) ?_
  refine hw_get (k := 1) (i := 0) (n := 1) (j := 4) (v := .ref (L 6 0)) hx hb hts hown hK hW fl_ca_24 rfl (by omega) rfl d_ca_setKind_31 ?_
  refine lv_iload_n hx hb d_ca_setKind_34 rfl (lv_at hl 1 rfl) ?_
  refine lv_iload hx hb d_ca_setKind_35 (lv_at hl 6 rfl) ?_
  obtain ⟨g5, hF⟩ := f_gd_some hF
  refine hw_iast (k := 6) (i := 0) (n := 1) hx hb hK hLi hW hS (by decide) rfl (by omega) rfl g5 d_ca_setKind_37 (fun H locs hW hS => ?_)
  refine lv_aload_n hx hb d_ca_setKind_38 rfl (lv_at hl 0 rfl) ?_
  refine hw_get (k := 1) (i := 0) (n := 1) (j := 5) (v := .ref (L 7 0)) hx hb hts hown hK hW fl_ca_27 rfl (by omega) rfl d_ca_setKind_39 ?_
  refine lv_iload_n hx hb d_ca_setKind_42 rfl (lv_at hl 1 rfl) ?_
  refine lv_iload hx hb d_ca_setKind_43 (lv_at hl 7 rfl) ?_
  obtain ⟨g6, hF⟩ := f_gd_some hF
  refine hw_iast (k := 7) (i := 0) (n := 1) hx hb hK hLi hW hS (by decide) rfl (by omega) rfl g6 d_ca_setKind_45 (fun H locs hW hS => ?_)
  exact hw_vret hx hb hr hlk hW hS (by omega) (by omega) d_ca_setKind_46 hF
set_option maxRecDepth 100000 in
set_option maxHeartbeats 4000000 in
theorem c_b_kind_ok (l : Launch) (hl0 : l.stackTraces = false) {L : Nat → Nat → Nat} {Ar : Nat → ClassId} {D : va_G} {b0 : Nat} (hLi : f_L L b0) (a1 : Int32) (a2 : Int32) (a3 : Int32) (a4 : Int32) (a5 : Int32) (a6 : Int32) (a7 : Int32)  (z : fST) (r : Int32 ⊕ Nat) (z' : fST) (hF : F_b_kind a1 a2 a3 a4 a5 a6 a7 z = some (r, z')) : f_C l y_b_kind wt 8 9 L Ar D b0 [.ref (L 0 0), .int a1, .int a2, .int a3, .int a4, .int a5, .int a6, .int a7] z (f_oi r) z' := by
  refine f_ofW (cc := c_b_kind) (maxL := 9) (ret := (some FieldType.int)) (by decide) w_b_kind (Nat.le_of_ble_eq_true rfl) ?_
  intro p e s m args below meth c R hRf hRl hRc hRs hx hb hr hlk hml hno hts hown hK hZ hsz
  intro H locs ls cells slots hW hS hl hc hs
  have hl : lv_has ls 9 [(0, .ref (L 0 0)), (1, .int a1), (2, .int a2), (3, .int a3), (4, .int a4), (5, .int a5), (6, .int a6), (7, .int a7)] := hl
  unfold F_b_kind at hF
  refine lv_aload_n hx hb d_b_kind_0 rfl (lv_at hl 0 rfl) ?_
  rcases f_bx_some hF with ⟨v1, z1, hc1, hF⟩ | ⟨v1, z1, hc1, hF⟩
  · skip
    refine hw_VR (k := 0) (i := 0) (nk := 1) (As := []) (rest := []) hx hb hml hown hts (c_b_requireOn_ok l hl0 hLi   _ _ _ hc1) st_b_55 (by decide) rfl (by omega) rfl rfl hK hZ hsz hS hW rfl hl.1 (Nat.le_of_ble_eq_true rfl) d_b_kind_1 (by omega) (by omega) (by omega) (by omega) (fun H locs hW hS => ?_)
    refine lv_aload_n hx hb d_b_kind_4 rfl (lv_at hl 0 rfl) ?_
    rcases f_bx_some hF with ⟨v2, z2, hc2, hF⟩ | ⟨v2, z2, hc2, hF⟩
    · skip
      refine hw_VR (k := 0) (i := 0) (nk := 1) (As := []) (rest := []) hx hb hml hown hts (c_b_requireEmptyBelt_ok l hl0 hLi   _ _ _ hc2) st_b_74 (by decide) rfl (by omega) rfl rfl hK hZ hsz hS hW rfl hl.1 (Nat.le_of_ble_eq_true rfl) d_b_kind_5 (by omega) (by omega) (by omega) (by omega) (fun H locs hW hS => ?_)
      refine lv_iload_n hx hb d_b_kind_8 rfl (lv_at hl 1 rfl) ?_
      refine lv_bipush (v := 40) hx hb d_b_kind_9 (by decide) ?_
      obtain ⟨v3, z3, hc3, hF⟩ := f_bd_some hF
      refine hw_SR (As := [.int a1, .int 40]) (rest := []) hx hb hml hown hts (c_b_isIndex_ok l hl0 hLi a1 40  _ _ _ hc3) st_b_58 hK hZ hsz hS hW rfl hl.1 (Nat.le_of_ble_eq_true rfl) d_b_kind_11 (by omega) (by omega) (by omega) (by omega) (fun H locs hW hS => ?_)
      rcases f_bx_some hF with ⟨v4, z4, hc4, hF⟩ | ⟨v4, z4, hc4, hF⟩
      · skip
        refine hw_SR (As := [.int v3]) (rest := []) hx hb hml hown hts (c_b_require_ok l hl0 hLi v3  _ _ _ hc4) st_b_62 hK hZ hsz hS hW rfl hl.1 (Nat.le_of_ble_eq_true rfl) d_b_kind_14 (by omega) (by omega) (by omega) (by omega) (fun H locs hW hS => ?_)
        refine lv_iload_n hx hb d_b_kind_17 rfl (lv_at hl 2 rfl) ?_
        refine lv_iconst (v := 1) hx hb d_b_kind_18 (by decide) ?_
        refine lv_ldc (v := 999999) hx hb hown (hts _ (wt_in (List.mem_of_getElem? (i := 418) (by decide +kernel)) rfl)) d_b_kind_19 ?_
        obtain ⟨v5, z5, hc5, hF⟩ := f_bd_some hF
        refine hw_SR (As := [.int a2, .int 1, .int 999999]) (rest := []) hx hb hml hown hts (c_b_isWithin_ok l hl0 hLi a2 1 999999  _ _ _ hc5) st_b_66 hK hZ hsz hS hW rfl hl.1 (Nat.le_of_ble_eq_true rfl) d_b_kind_21 (by omega) (by omega) (by omega) (by omega) (fun H locs hW hS => ?_)
        rcases f_bx_some hF with ⟨v6, z6, hc6, hF⟩ | ⟨v6, z6, hc6, hF⟩
        · skip
          refine hw_SR (As := [.int v5]) (rest := []) hx hb hml hown hts (c_b_require_ok l hl0 hLi v5  _ _ _ hc6) st_b_62 hK hZ hsz hS hW rfl hl.1 (Nat.le_of_ble_eq_true rfl) d_b_kind_24 (by omega) (by omega) (by omega) (by omega) (fun H locs hW hS => ?_)
          refine lv_iload_n hx hb d_b_kind_27 rfl (lv_at hl 3 rfl) ?_
          refine lv_iconst (v := 1) hx hb d_b_kind_28 (by decide) ?_
          refine lv_sipush (v := 500) hx hb d_b_kind_29 (by decide) ?_
          obtain ⟨v7, z7, hc7, hF⟩ := f_bd_some hF
          refine hw_SR (As := [.int a3, .int 1, .int 500]) (rest := []) hx hb hml hown hts (c_b_isWithin_ok l hl0 hLi a3 1 500  _ _ _ hc7) st_b_66 hK hZ hsz hS hW rfl hl.1 (Nat.le_of_ble_eq_true rfl) d_b_kind_32 (by omega) (by omega) (by omega) (by omega) (fun H locs hW hS => ?_)
          rcases f_bx_some hF with ⟨v8, z8, hc8, hF⟩ | ⟨v8, z8, hc8, hF⟩
          · skip
            refine hw_SR (As := [.int v7]) (rest := []) hx hb hml hown hts (c_b_require_ok l hl0 hLi v7  _ _ _ hc8) st_b_62 hK hZ hsz hS hW rfl hl.1 (Nat.le_of_ble_eq_true rfl) d_b_kind_35 (by omega) (by omega) (by omega) (by omega) (fun H locs hW hS => ?_)
            refine lv_iload hx hb d_b_kind_38 (lv_at hl 4 rfl) ?_
            refine lv_iconst (v := 3) hx hb d_b_kind_40 (by decide) ?_
            obtain ⟨v9, z9, hc9, hF⟩ := f_bd_some hF
            refine hw_SR (As := [.int a4, .int 3]) (rest := []) hx hb hml hown hts (c_b_isIndex_ok l hl0 hLi a4 3  _ _ _ hc9) st_b_58 hK hZ hsz hS hW rfl hl.1 (Nat.le_of_ble_eq_true rfl) d_b_kind_41 (by omega) (by omega) (by omega) (by omega) (fun H locs hW hS => ?_)
            rcases f_bx_some hF with ⟨v10, z10, hc10, hF⟩ | ⟨v10, z10, hc10, hF⟩
            · skip
              refine hw_SR (As := [.int v9]) (rest := []) hx hb hml hown hts (c_b_require_ok l hl0 hLi v9  _ _ _ hc10) st_b_62 hK hZ hsz hS hW rfl hl.1 (Nat.le_of_ble_eq_true rfl) d_b_kind_44 (by omega) (by omega) (by omega) (by omega) (fun H locs hW hS => ?_)
              refine lv_iload hx hb d_b_kind_47 (lv_at hl 6 rfl) ?_
              refine lv_iconst (v := 0) hx hb d_b_kind_49 (by decide) ?_
              refine lv_sipush (v := 5000) hx hb d_b_kind_50 (by decide) ?_
              obtain ⟨v11, z11, hc11, hF⟩ := f_bd_some hF
              refine hw_SR (As := [.int a6, .int 0, .int 5000]) (rest := []) hx hb hml hown hts (c_b_isWithin_ok l hl0 hLi a6 0 5000  _ _ _ hc11) st_b_66 hK hZ hsz hS hW rfl hl.1 (Nat.le_of_ble_eq_true rfl) d_b_kind_53 (by omega) (by omega) (by omega) (by omega) (fun H locs hW hS => ?_)
              rcases f_bx_some hF with ⟨v12, z12, hc12, hF⟩ | ⟨v12, z12, hc12, hF⟩
              · skip
                refine hw_SR (As := [.int v11]) (rest := []) hx hb hml hown hts (c_b_require_ok l hl0 hLi v11  _ _ _ hc12) st_b_62 hK hZ hsz hS hW rfl hl.1 (Nat.le_of_ble_eq_true rfl) d_b_kind_56 (by omega) (by omega) (by omega) (by omega) (fun H locs hW hS => ?_)
                refine lv_iload hx hb d_b_kind_59 (lv_at hl 5 rfl) ?_
                refine lv_iconst (v := 0) hx hb d_b_kind_61 (by decide) ?_
                refine lv_iload hx hb d_b_kind_62 (lv_at hl 6 rfl) ?_
                obtain ⟨v13, z13, hc13, hF⟩ := f_bd_some hF
                refine hw_SR (As := [.int a5, .int 0, .int a6]) (rest := []) hx hb hml hown hts (c_b_isWithin_ok l hl0 hLi a5 0 a6  _ _ _ hc13) st_b_66 hK hZ hsz hS hW rfl hl.1 (Nat.le_of_ble_eq_true rfl) d_b_kind_64 (by omega) (by omega) (by omega) (by omega) (fun H locs hW hS => ?_)
                rcases f_bx_some hF with ⟨v14, z14, hc14, hF⟩ | ⟨v14, z14, hc14, hF⟩
                · skip
                  refine hw_SR (As := [.int v13]) (rest := []) hx hb hml hown hts (c_b_require_ok l hl0 hLi v13  _ _ _ hc14) st_b_62 hK hZ hsz hS hW rfl hl.1 (Nat.le_of_ble_eq_true rfl) d_b_kind_67 (by omega) (by omega) (by omega) (by omega) (fun H locs hW hS => ?_)
                  refine lv_iload hx hb d_b_kind_70 (lv_at hl 7 rfl) ?_
                  refine lv_bipush (v := 8) hx hb d_b_kind_72 (by decide) ?_
                  obtain ⟨v15, z15, hc15, hF⟩ := f_bd_some hF
                  refine hw_SR (As := [.int a7, .int 8]) (rest := []) hx hb hml hown hts (c_b_isIndex_ok l hl0 hLi a7 8  _ _ _ hc15) st_b_58 hK hZ hsz hS hW rfl hl.1 (Nat.le_of_ble_eq_true rfl) d_b_kind_74 (by omega) (by omega) (by omega) (by omega) (fun H locs hW hS => ?_)
                  rcases f_bx_some hF with ⟨v16, z16, hc16, hF⟩ | ⟨v16, z16, hc16, hF⟩
                  · skip
                    refine hw_SR (As := [.int v15]) (rest := []) hx hb hml hown hts (c_b_require_ok l hl0 hLi v15  _ _ _ hc16) st_b_62 hK hZ hsz hS hW rfl hl.1 (Nat.le_of_ble_eq_true rfl) d_b_kind_77 (by omega) (by omega) (by omega) (by omega) (fun H locs hW hS => ?_)
                    refine lv_aload_n hx hb d_b_kind_80 rfl (lv_at hl 0 rfl) ?_
                    refine hw_get (k := 0) (i := 0) (n := 1) (j := 0) (v := .ref (L 1 0)) hx hb hts hown hK hW fl_b_12 rfl (by omega) rfl d_b_kind_81 ?_
                    refine lv_iload_n hx hb d_b_kind_84 rfl (lv_at hl 2 rfl) ?_
                    obtain ⟨v17, z17, hc17, hF⟩ := f_bd_some hF
                    refine hw_VR (k := 1) (i := 0) (nk := 1) (As := [.int a2]) (rest := []) hx hb hml hown hts (c_ca_kindWith_ok l hl0 hLi a2  _ _ _ hc17) st_b_78 (by decide) rfl (by omega) rfl rfl hK hZ hsz hS hW rfl hl.1 (Nat.le_of_ble_eq_true rfl) d_b_kind_85 (by omega) (by omega) (by omega) (by omega) (fun H locs hW hS => ?_)
                    refine lv_istore (lv' := [(8, .int v17), (0, .ref (L 0 0)), (1, .int a1), (2, .int a2), (3, .int a3), (4, .int a4), (5, .int a5), (6, .int a6), (7, .int a7)]) hx hb d_b_kind_88 hl (by decide) rfl (fun ls hl => ?_)
                    refine lv_aload_n hx hb d_b_kind_90 rfl (lv_at hl 1 rfl) ?_
                    refine hw_get (k := 0) (i := 0) (n := 1) (j := 0) (v := .ref (L 1 0)) hx hb hts hown hK hW fl_b_12 rfl (by omega) rfl d_b_kind_91 ?_
                    refine lv_iload hx hb d_b_kind_94 (lv_at hl 0 rfl) ?_
                    obtain ⟨v18, z18, hc18, hF⟩ := f_bd_some hF
                    refine hw_VR (k := 1) (i := 0) (nk := 1) (As := [.int v17]) (rest := []) hx hb hml hown hts (c_ca_dropCode_ok l hl0 hLi v17  _ _ _ hc18) st_b_82 (by decide) rfl (by omega) rfl rfl hK hZ hsz hS hW rfl hl.1 (Nat.le_of_ble_eq_true rfl) d_b_kind_96 (by omega) (by omega) (by omega) (by omega) (fun H locs hW hS => ?_)
                    refine lv_aload_n hx hb d_b_kind_99 rfl (lv_at hl 1 rfl) ?_
                    refine hw_get (k := 0) (i := 0) (n := 1) (j := 0) (v := .ref (L 1 0)) hx hb hts hown hK hW fl_b_12 rfl (by omega) rfl d_b_kind_100 ?_
                    refine lv_iload_n hx hb d_b_kind_103 rfl (lv_at hl 2 rfl) ?_
                    refine lv_iload_n hx hb d_b_kind_104 rfl (lv_at hl 3 rfl) ?_
                    refine lv_iload_n hx hb d_b_kind_105 rfl (lv_at hl 4 rfl) ?_
                    refine lv_iload hx hb d_b_kind_106 (lv_at hl 5 rfl) ?_
                    refine lv_iload hx hb d_b_kind_108 (lv_at hl 6 rfl) ?_
                    refine lv_iload hx hb d_b_kind_110 (lv_at hl 7 rfl) ?_
                    refine lv_iload hx hb d_b_kind_112 (lv_at hl 8 rfl) ?_
                    obtain ⟨v19, z19, hc19, hF⟩ := f_bd_some hF
                    refine hw_VR (k := 1) (i := 0) (nk := 1) (As := [.int a1, .int a2, .int a3, .int a4, .int a5, .int a6, .int a7]) (rest := []) hx hb hml hown hts (c_ca_setKind_ok l hl0 hLi a1 a2 a3 a4 a5 a6 a7  _ _ _ hc19) st_b_86 (by decide) rfl (by omega) rfl rfl hK hZ hsz hS hW rfl hl.1 (Nat.le_of_ble_eq_true rfl) d_b_kind_114 (by omega) (by omega) (by omega) (by omega) (fun H locs hW hS => ?_)
                    refine lv_iload hx hb d_b_kind_117 (lv_at hl 0 rfl) ?_
                    exact hw_iretX hx hb hr hlk (vp_nar_int _) hW hS (by omega) (by omega) d_b_kind_119 hF
                  · cases hF
                    exact hw_SX (As := [.int v15]) (rest := []) hx hb hml hown hts (c_b_require_ok l hl0 hLi v15  _ _ _ hc16) st_b_62 hK hZ hsz hS hW rfl hl.1 (Nat.le_of_ble_eq_true rfl) d_b_kind_77 (by omega) (by omega) (by omega) (by omega) (fun q ce H locs hW hS hq hv hcl => hw_out (fun x hx => (hno x hx).elim) hlk hW hS hq hv hcl (by omega) (by omega))
                · cases hF
                  exact hw_SX (As := [.int v13]) (rest := []) hx hb hml hown hts (c_b_require_ok l hl0 hLi v13  _ _ _ hc14) st_b_62 hK hZ hsz hS hW rfl hl.1 (Nat.le_of_ble_eq_true rfl) d_b_kind_67 (by omega) (by omega) (by omega) (by omega) (fun q ce H locs hW hS hq hv hcl => hw_out (fun x hx => (hno x hx).elim) hlk hW hS hq hv hcl (by omega) (by omega))
              · cases hF
                exact hw_SX (As := [.int v11]) (rest := []) hx hb hml hown hts (c_b_require_ok l hl0 hLi v11  _ _ _ hc12) st_b_62 hK hZ hsz hS hW rfl hl.1 (Nat.le_of_ble_eq_true rfl) d_b_kind_56 (by omega) (by omega) (by omega) (by omega) (fun q ce H locs hW hS hq hv hcl => hw_out (fun x hx => (hno x hx).elim) hlk hW hS hq hv hcl (by omega) (by omega))
            · cases hF
              exact hw_SX (As := [.int v9]) (rest := []) hx hb hml hown hts (c_b_require_ok l hl0 hLi v9  _ _ _ hc10) st_b_62 hK hZ hsz hS hW rfl hl.1 (Nat.le_of_ble_eq_true rfl) d_b_kind_44 (by omega) (by omega) (by omega) (by omega) (fun q ce H locs hW hS hq hv hcl => hw_out (fun x hx => (hno x hx).elim) hlk hW hS hq hv hcl (by omega) (by omega))
          · cases hF
            exact hw_SX (As := [.int v7]) (rest := []) hx hb hml hown hts (c_b_require_ok l hl0 hLi v7  _ _ _ hc8) st_b_62 hK hZ hsz hS hW rfl hl.1 (Nat.le_of_ble_eq_true rfl) d_b_kind_35 (by omega) (by omega) (by omega) (by omega) (fun q ce H locs hW hS hq hv hcl => hw_out (fun x hx => (hno x hx).elim) hlk hW hS hq hv hcl (by omega) (by omega))
        · cases hF
          exact hw_SX (As := [.int v5]) (rest := []) hx hb hml hown hts (c_b_require_ok l hl0 hLi v5  _ _ _ hc6) st_b_62 hK hZ hsz hS hW rfl hl.1 (Nat.le_of_ble_eq_true rfl) d_b_kind_24 (by omega) (by omega) (by omega) (by omega) (fun q ce H locs hW hS hq hv hcl => hw_out (fun x hx => (hno x hx).elim) hlk hW hS hq hv hcl (by omega) (by omega))
      · cases hF
        exact hw_SX (As := [.int v3]) (rest := []) hx hb hml hown hts (c_b_require_ok l hl0 hLi v3  _ _ _ hc4) st_b_62 hK hZ hsz hS hW rfl hl.1 (Nat.le_of_ble_eq_true rfl) d_b_kind_14 (by omega) (by omega) (by omega) (by omega) (fun q ce H locs hW hS hq hv hcl => hw_out (fun x hx => (hno x hx).elim) hlk hW hS hq hv hcl (by omega) (by omega))
    · cases hF
      exact hw_VX (k := 0) (i := 0) (nk := 1) (As := []) (rest := []) hx hb hml hown hts (c_b_requireEmptyBelt_ok l hl0 hLi   _ _ _ hc2) st_b_74 (by decide) rfl (by omega) rfl rfl hK hZ hsz hS hW rfl hl.1 (Nat.le_of_ble_eq_true rfl) d_b_kind_5 (by omega) (by omega) (by omega) (by omega) (fun q ce H locs hW hS hq hv hcl => hw_out (fun x hx => (hno x hx).elim) hlk hW hS hq hv hcl (by omega) (by omega))
  · cases hF
    exact hw_VX (k := 0) (i := 0) (nk := 1) (As := []) (rest := []) hx hb hml hown hts (c_b_requireOn_ok l hl0 hLi   _ _ _ hc1) st_b_55 (by decide) rfl (by omega) rfl rfl hK hZ hsz hS hW rfl hl.1 (Nat.le_of_ble_eq_true rfl) d_b_kind_1 (by omega) (by omega) (by omega) (by omega) (fun q ce H locs hW hS hq hv hcl => hw_out (fun x hx => (hno x hx).elim) hlk hW hS hq hv hcl (by omega) (by omega))
set_option maxRecDepth 100000 in
set_option maxHeartbeats 4000000 in
theorem c_co_rear_ok (l : Launch) (hl0 : l.stackTraces = false) {L : Nat → Nat → Nat} {Ar : Nat → ClassId} {D : va_G} {b0 : Nat} (hLi : f_L L b0) (a0 : Nat) (h_a0 : a0 < 16) (z : fST) (r : Int32) (z' : fST) (hF : F_co_rear a0 z = some (r, z')) : f_C l y_co_rear wt 1 0 L Ar D b0 [.ref (L 13 a0)] z (.inl (some (.int r))) z' := by
  refine f_ofW (cc := c_co_rear) (maxL := 1) (ret := (some FieldType.int)) (by decide) w_co_rear (Nat.le_of_ble_eq_true rfl) ?_
  intro p e s m args below meth c R hRf hRl hRc hRs hx hb hr hlk hml hno hts hown hK hZ hsz
  intro H locs ls cells slots hW hS hl hc hs
  have hl : lv_has ls 1 [(0, .ref (L 13 a0))] := hl
  unfold F_co_rear at hF
  refine lv_aload_n hx hb d_co_rear_0 rfl (lv_at hl 0 rfl) ?_
  refine hw_get (k := 13) (i := a0) (n := 16) (j := 4) (v := .int (f_gI z 13 a0 4)) hx hb hts hown hK hW fl_co_30 rfl (by omega) rfl d_co_rear_1 ?_
  refine lv_aload_n hx hb d_co_rear_4 rfl (lv_at hl 0 rfl) ?_
  refine hw_get (k := 13) (i := a0) (n := 16) (j := 3) (v := .int (f_gI z 13 a0 3)) hx hb hts hown hK hW fl_co_27 rfl (by omega) rfl d_co_rear_5 ?_
  refine lv_isub hx hb d_co_rear_8 ?_
  exact hw_iret hx hb hr hlk (vp_nar_int _) hW hS (by omega) (by omega) d_co_rear_9 hF
set_option maxRecDepth 100000 in
set_option maxHeartbeats 4000000 in
theorem c_co_forget_ok (l : Launch) (hl0 : l.stackTraces = false) {L : Nat → Nat → Nat} {Ar : Nat → ClassId} {D : va_G} {b0 : Nat} (hLi : f_L L b0) (a0 : Nat) (h_a0 : a0 < 16) (z : fST) (r : Unit) (z' : fST) (hF : F_co_forget a0 z = some (r, z')) : f_C l y_co_forget wt 1 0 L Ar D b0 [.ref (L 13 a0)] z (.inl none) z' := by
  refine f_ofW (cc := c_co_forget) (maxL := 1) (ret := (Option.none : Option Jvm.ClassFile.FieldType)) (by decide) w_co_forget (Nat.le_of_ble_eq_true rfl) ?_
  intro p e s m args below meth c R hRf hRl hRc hRs hx hb hr hlk hml hno hts hown hK hZ hsz
  intro H locs ls cells slots hW hS hl hc hs
  have hl : lv_has ls 1 [(0, .ref (L 13 a0))] := hl
  unfold F_co_forget at hF
  refine lv_aload_n hx hb d_co_forget_0 rfl (lv_at hl 0 rfl) ?_
  refine hw_get (k := 13) (i := a0) (n := 16) (j := 0) (v := .ref (L 14 a0)) hx hb hts hown hK hW fl_co_14 rfl (by omega) rfl d_co_forget_1 ?_
  refine lv_iconst (v := 0) hx hb d_co_forget_4 (by decide) ?_
  refine hw_put (k := 14) (i := a0) (n := 32) (j := 1) (v := 0) hx hb hts hown hK hLi hW hS fp_co_40 (vp_nar_int _) rfl rfl (by omega) d_co_forget_5 (fun H locs hW hS => ?_)
  refine lv_aload_n hx hb d_co_forget_8 rfl (lv_at hl 0 rfl) ?_
  refine hw_get (k := 13) (i := a0) (n := 16) (j := 1) (v := .ref (L 14 (a0 + 16))) hx hb hts hown hK hW fl_co_20 rfl (by omega) rfl d_co_forget_9 ?_
  refine lv_iconst (v := 0) hx hb d_co_forget_12 (by decide) ?_
  refine hw_put (k := 14) (i := a0 + 16) (n := 32) (j := 1) (v := 0) hx hb hts hown hK hLi hW hS fp_co_40 (vp_nar_int _) rfl rfl (by omega) d_co_forget_13 (fun H locs hW hS => ?_)
  refine lv_aload_n hx hb d_co_forget_16 rfl (lv_at hl 0 rfl) ?_
  refine lv_iconst (v := (-1)) hx hb d_co_forget_17 (by decide) ?_
  refine hw_put (k := 13) (i := a0) (n := 16) (j := 5) (v := (-1)) hx hb hts hown hK hLi hW hS fp_co_43 (vp_nar_int _) rfl rfl (by omega) d_co_forget_18 (fun H locs hW hS => ?_)
  refine lv_aload_n hx hb d_co_forget_21 rfl (lv_at hl 0 rfl) ?_
  refine lv_iconst (v := 0) hx hb d_co_forget_22 (by decide) ?_
  refine hw_put (k := 13) (i := a0) (n := 16) (j := 6) (v := 0) hx hb hts hown hK hLi hW hS fp_co_46 (vp_nar_int _) rfl rfl (by omega) d_co_forget_23 (fun H locs hW hS => ?_)
  refine lv_aload_n hx hb d_co_forget_26 rfl (lv_at hl 0 rfl) ?_
  refine lv_iconst (v := (-1)) hx hb d_co_forget_27 (by decide) ?_
  refine hw_put (k := 13) (i := a0) (n := 16) (j := 7) (v := (-1)) hx hb hts hown hK hLi hW hS fp_co_49 (vp_nar_int _) rfl rfl (by omega) d_co_forget_28 (fun H locs hW hS => ?_)
  exact hw_vret hx hb hr hlk hW hS (by omega) (by omega) d_co_forget_31 hF
set_option maxRecDepth 100000 in
set_option maxHeartbeats 4000000 in
theorem c_co_begin_ok (l : Launch) (hl0 : l.stackTraces = false) {L : Nat → Nat → Nat} {Ar : Nat → ClassId} {D : va_G} {b0 : Nat} (hLi : f_L L b0) (a0 : Nat) (a1 : Int32) (a2 : Int32) (h_a0 : a0 < 16) (z : fST) (r : Unit) (z' : fST) (hF : F_co_begin a0 a1 a2 z = some (r, z')) : f_C l y_co_begin wt 2 0 L Ar D b0 [.ref (L 13 a0), .int a1, .int a2] z (.inl none) z' := by
  refine f_ofW (cc := c_co_begin) (maxL := 3) (ret := (Option.none : Option Jvm.ClassFile.FieldType)) (by decide) w_co_begin (Nat.le_of_ble_eq_true rfl) ?_
  intro p e s m args below meth c R hRf hRl hRc hRs hx hb hr hlk hml hno hts hown hK hZ hsz
  intro H locs ls cells slots hW hS hl hc hs
  have hl : lv_has ls 3 [(0, .ref (L 13 a0)), (1, .int a1), (2, .int a2)] := hl
  unfold F_co_begin at hF
  refine lv_aload_n hx hb d_co_begin_0 rfl (lv_at hl 0 rfl) ?_
  refine lv_iload_n hx hb d_co_begin_1 rfl (lv_at hl 1 rfl) ?_
  refine hw_put (k := 13) (i := a0) (n := 16) (j := 2) (v := a1) hx hb hts hown hK hLi hW hS fp_co_23 (vp_nar_int _) rfl rfl (by omega) d_co_begin_2 (fun H locs hW hS => ?_)
  refine lv_aload_n hx hb d_co_begin_5 rfl (lv_at hl 0 rfl) ?_
  refine lv_iload_n hx hb d_co_begin_6 rfl (lv_at hl 2 rfl) ?_
  refine hw_put (k := 13) (i := a0) (n := 16) (j := 3) (v := a2) hx hb hts hown hK hLi hW hS fp_co_27 (vp_nar_int _) rfl rfl (by omega) d_co_begin_7 (fun H locs hW hS => ?_)
  refine lv_aload_n hx hb d_co_begin_10 rfl (lv_at hl 0 rfl) ?_
  refine lv_iconst (v := 0) hx hb d_co_begin_11 (by decide) ?_
  refine hw_put (k := 13) (i := a0) (n := 16) (j := 4) (v := 0) hx hb hts hown hK hLi hW hS fp_co_30 (vp_nar_int _) rfl rfl (by omega) d_co_begin_12 (fun H locs hW hS => ?_)
  refine lv_aload_n hx hb d_co_begin_15 rfl (lv_at hl 0 rfl) ?_
  refine lv_iconst (v := 0) hx hb d_co_begin_16 (by decide) ?_
  refine hw_put (k := 13) (i := a0) (n := 16) (j := 8) (v := 0) hx hb hts hown hK hLi hW hS fp_co_33 (f_nZ (Or.inl rfl)) (f_fZ _ (Or.inl rfl)) rfl (by omega) d_co_begin_17 (fun H locs hW hS => ?_)
  refine lv_aload_n hx hb d_co_begin_20 rfl (lv_at hl 0 rfl) ?_
  obtain ⟨v1, z1, hc1, hF⟩ := f_bd_some hF
  refine hw_VR (k := 13) (i := a0) (nk := 16) (As := []) (rest := []) hx hb hml hown hts (c_co_forget_ok l hl0 hLi a0 (by omega) _ _ _ hc1) st_co_37 (by decide) rfl (by omega) rfl rfl hK hZ hsz hS hW rfl hl.1 (Nat.le_of_ble_eq_true rfl) d_co_begin_21 (by omega) (by omega) (by omega) (by omega) (fun H locs hW hS => ?_)
  exact hw_vret hx hb hr hlk hW hS (by omega) (by omega) d_co_begin_24 hF
set_option maxRecDepth 100000 in
set_option maxHeartbeats 4000000 in
theorem c_be_putIn_ok (l : Launch) (hl0 : l.stackTraces = false) {L : Nat → Nat → Nat} {Ar : Nat → ClassId} {D : va_G} {b0 : Nat} (hLi : f_L L b0) (a1 : Int32)  (z : fST) (r : Int32) (z' : fST) (hF : F_be_putIn a1 z = some (r, z')) : f_C l y_be_putIn wt 3 0 L Ar D b0 [.ref (L 11 0), .int a1] z (.inl (some (.int r))) z' := by
  refine f_ofW (cc := c_be_putIn) (maxL := 2) (ret := (some FieldType.int)) (by decide) w_be_putIn (Nat.le_of_ble_eq_true rfl) ?_
  intro p e s m args below meth c R hRf hRl hRc hRs hx hb hr hlk hml hno hts hown hK hZ hsz
  have B41 : ∀  (x1 : Int32) (z : fST), b_be_putIn_41  x1 z = some (r, z') →  f_B p l e R s m args below meth c L Ar D b0 2 0 (f_E below args s L Ar D b0 0 (.inl (some (.int r))) z') 0 41 [(0, .ref (L 11 0)), (1, .int x1)] [] z := by
    intro  x1 z hF  H locs ls cells slots hW hS hl hc hs
    unfold b_be_putIn_41 at hF
    refine lv_aload_n hx hb d_be_putIn_41 rfl (lv_at hl 0 rfl) ?_
    refine lv_dup hx hb d_be_putIn_42 rfl ?_
    refine hw_get (k := 11) (i := 0) (n := 1) (j := 2) (v := .int (f_gI z 11 0 2)) hx hb hts hown hK hW fl_be_26 rfl (by omega) rfl d_be_putIn_43 ?_
    refine lv_iconst (v := 1) hx hb d_be_putIn_46 (by decide) ?_
    refine lv_iadd hx hb d_be_putIn_47 ?_
    refine hw_put (k := 11) (i := 0) (n := 1) (j := 2) (v := (f_gI z 11 0 2) + 1) hx hb hts hown hK hLi hW hS fp_be_26 (vp_nar_int _) rfl rfl (by omega) d_be_putIn_48 (fun H locs hW hS => ?_)
    refine lv_aload_n hx hb d_be_putIn_51 rfl (lv_at hl 0 rfl) ?_
    refine hw_get (k := 11) (i := 0) (n := 1) (j := 0) (v := .ref (L 12 0)) hx hb hts hown hK hW fl_be_11 rfl (by omega) rfl d_be_putIn_52 ?_
    refine lv_aload_n hx hb d_be_putIn_55 rfl (lv_at hl 0 rfl) ?_
    refine hw_get (k := 11) (i := 0) (n := 1) (j := 1) (v := .int (f_gI (f_pI z 11 0 2 ((f_gI z 11 0 2) + 1)) 11 0 1)) hx hb hts hown hK hW fl_be_18 rfl (by omega) rfl d_be_putIn_56 ?_
    obtain ⟨g7, hF⟩ := f_gd_some hF
    obtain ⟨g8, hF⟩ := f_gd_some hF
    have g8 := of_decide_eq_true g8
    refine hw_rald hx hb hK hW g7 d_be_putIn_59 ?_
    refine lv_aload_n hx hb d_be_putIn_60 rfl (lv_at hl 0 rfl) ?_
    refine hw_get (k := 11) (i := 0) (n := 1) (j := 2) (v := .int (f_gI (f_pI z 11 0 2 ((f_gI z 11 0 2) + 1)) 11 0 2)) hx hb hts hown hK hW fl_be_26 rfl (by omega) rfl d_be_putIn_61 ?_
    refine lv_iload_n hx hb d_be_putIn_64 rfl (lv_at hl 1 rfl) ?_
    obtain ⟨v9, z9, hc9, hF⟩ := f_bd_some hF
    refine hw_VR (k := 13) (i := f_gR (f_pI z 11 0 2 ((f_gI z 11 0 2) + 1)) (f_ix (f_gI (f_pI z 11 0 2 ((f_gI z 11 0 2) + 1)) 11 0 1))) (nk := 16) (As := [.int (f_gI (f_pI z 11 0 2 ((f_gI z 11 0 2) + 1)) 11 0 2), .int x1]) (rest := []) hx hb hml hown hts (c_co_begin_ok l hl0 hLi (f_gR (f_pI z 11 0 2 ((f_gI z 11 0 2) + 1)) (f_ix (f_gI (f_pI z 11 0 2 ((f_gI z 11 0 2) + 1)) 11 0 1))) (f_gI (f_pI z 11 0 2 ((f_gI z 11 0 2) + 1)) 11 0 2) x1 (by omega) _ _ _ hc9) st_be_29 (by decide) rfl (by omega) rfl rfl hK hZ hsz hS hW rfl hl.1 (Nat.le_of_ble_eq_true rfl) d_be_putIn_65 (by omega) (by omega) (by omega) (by omega) (fun H locs hW hS => ?_)
    refine lv_aload_n hx hb d_be_putIn_68 rfl (lv_at hl 0 rfl) ?_
    refine lv_dup hx hb d_be_putIn_69 rfl ?_
    refine hw_get (k := 11) (i := 0) (n := 1) (j := 1) (v := .int (f_gI z9 11 0 1)) hx hb hts hown hK hW fl_be_18 rfl (by omega) rfl d_be_putIn_70 ?_
    refine lv_iconst (v := 1) hx hb d_be_putIn_73 (by decide) ?_
    refine lv_iadd hx hb d_be_putIn_74 ?_
    refine hw_put (k := 11) (i := 0) (n := 1) (j := 1) (v := (f_gI z9 11 0 1) + 1) hx hb hts hown hK hLi hW hS fp_be_18 (vp_nar_int _) rfl rfl (by omega) d_be_putIn_75 (fun H locs hW hS => ?_)
    refine lv_aload_n hx hb d_be_putIn_78 rfl (lv_at hl 0 rfl) ?_
    refine hw_get (k := 11) (i := 0) (n := 1) (j := 2) (v := .int (f_gI (f_pI z9 11 0 1 ((f_gI z9 11 0 1) + 1)) 11 0 2)) hx hb hts hown hK hW fl_be_26 rfl (by omega) rfl d_be_putIn_79 ?_
    exact hw_iret hx hb hr hlk (vp_nar_int _) hW hS (by omega) (by omega) d_be_putIn_82 hF
  intro H locs ls cells slots hW hS hl hc hs
  have hl : lv_has ls 2 [(0, .ref (L 11 0)), (1, .int a1)] := hl
  unfold F_be_putIn at hF
  refine lv_aload_n hx hb d_be_putIn_0 rfl (lv_at hl 0 rfl) ?_
  refine hw_get (k := 11) (i := 0) (n := 1) (j := 1) (v := .int (f_gI z 11 0 1)) hx hb hts hown hK hW fl_be_18 rfl (by omega) rfl d_be_putIn_1 ?_
  refine lv_aload_n hx hb d_be_putIn_4 rfl (lv_at hl 0 rfl) ?_
  refine hw_get (k := 11) (i := 0) (n := 1) (j := 0) (v := .ref (L 12 0)) hx hb hts hown hK hW fl_be_11 rfl (by omega) rfl d_be_putIn_5 ?_
  refine hw_rlen hx hb hK hW d_be_putIn_8 ?_
  refine lv_icmp_lt (tgt := 14) hx hb d_be_putIn_9 (by decide) (fun h1 => ?_) (fun h1 => ?_)
  · have hF := (if_pos h1).symm.trans hF
    refine lv_aload_n hx hb d_be_putIn_14 rfl (lv_at hl 0 rfl) ?_
    refine hw_get (k := 11) (i := 0) (n := 1) (j := 1) (v := .int (f_gI z 11 0 1)) hx hb hts hown hK hW fl_be_18 rfl (by omega) rfl d_be_putIn_15 ?_
    refine lv_if_le (tgt := 41) hx hb d_be_putIn_18 (by decide) (fun h2 => ?_) (fun h2 => ?_)
    · have hF := (if_pos h2).symm.trans hF
      exact B41 a1 z hF _ _ _ _ _ hW hS (lv_sub hl [0, 1] rfl) (by omega) (by omega)
    · have hF := (if_neg h2).symm.trans hF
      refine lv_aload_n hx hb d_be_putIn_21 rfl (lv_at hl 0 rfl) ?_
      refine hw_get (k := 11) (i := 0) (n := 1) (j := 0) (v := .ref (L 12 0)) hx hb hts hown hK hW fl_be_11 rfl (by omega) rfl d_be_putIn_22 ?_
      refine lv_aload_n hx hb d_be_putIn_25 rfl (lv_at hl 0 rfl) ?_
      refine hw_get (k := 11) (i := 0) (n := 1) (j := 1) (v := .int (f_gI z 11 0 1)) hx hb hts hown hK hW fl_be_18 rfl (by omega) rfl d_be_putIn_26 ?_
      refine lv_iconst (v := 1) hx hb d_be_putIn_29 (by decide) ?_
      refine lv_isub hx hb d_be_putIn_30 ?_
      obtain ⟨g3, hF⟩ := f_gd_some hF
      obtain ⟨g4, hF⟩ := f_gd_some hF
      have g4 := of_decide_eq_true g4
      refine hw_rald hx hb hK hW g3 d_be_putIn_31 ?_
      obtain ⟨v5, z5, hc5, hF⟩ := f_bd_some hF
      refine hw_VR (k := 13) (i := f_gR z (f_ix ((f_gI z 11 0 1) - 1))) (nk := 16) (As := []) (rest := []) hx hb hml hown hts (c_co_rear_ok l hl0 hLi (f_gR z (f_ix ((f_gI z 11 0 1) - 1))) (by omega) _ _ _ hc5) st_be_22 (by decide) rfl (by omega) rfl rfl hK hZ hsz hS hW rfl hl.1 (Nat.le_of_ble_eq_true rfl) d_be_putIn_32 (by omega) (by omega) (by omega) (by omega) (fun H locs hW hS => ?_)
      refine lv_iconst (v := 4) hx hb d_be_putIn_35 (by decide) ?_
      refine lv_icmp_ge (tgt := 41) hx hb d_be_putIn_36 (by decide) (fun h6 => ?_) (fun h6 => ?_)
      · have hF := (if_pos h6).symm.trans hF
        exact B41 a1 z5 hF _ _ _ _ _ hW hS (lv_sub hl [0, 1] rfl) (by omega) (by omega)
      · have hF := (if_neg h6).symm.trans hF
        refine lv_iconst (v := 0) hx hb d_be_putIn_39 (by decide) ?_
        exact hw_iret hx hb hr hlk (vp_nar_int _) hW hS (by omega) (by omega) d_be_putIn_40 hF
  · have hF := (if_neg h1).symm.trans hF
    refine lv_iconst (v := 0) hx hb d_be_putIn_12 (by decide) ?_
    exact hw_iret hx hb hr hlk (vp_nar_int _) hW hS (by omega) (by omega) d_be_putIn_13 hF
set_option maxRecDepth 100000 in
set_option maxHeartbeats 4000000 in
theorem c_b_enter_ok (l : Launch) (hl0 : l.stackTraces = false) {L : Nat → Nat → Nat} {Ar : Nat → ClassId} {D : va_G} {b0 : Nat} (hLi : f_L L b0) (a1 : Int32)  (z : fST) (r : Int32 ⊕ Nat) (z' : fST) (hF : F_b_enter a1 z = some (r, z')) : f_C l y_b_enter wt 8 2 L Ar D b0 [.ref (L 0 0), .int a1] z (f_oi r) z' := by
  refine f_ofW (cc := c_b_enter) (maxL := 2) (ret := (some FieldType.int)) (by decide) w_b_enter (Nat.le_of_ble_eq_true rfl) ?_
  intro p e s m args below meth c R hRf hRl hRc hRs hx hb hr hlk hml hno hts hown hK hZ hsz
  intro H locs ls cells slots hW hS hl hc hs
  have hl : lv_has ls 2 [(0, .ref (L 0 0)), (1, .int a1)] := hl
  unfold F_b_enter at hF
  refine lv_aload_n hx hb d_b_enter_0 rfl (lv_at hl 0 rfl) ?_
  rcases f_bx_some hF with ⟨v1, z1, hc1, hF⟩ | ⟨v1, z1, hc1, hF⟩
  · skip
    refine hw_VR (k := 0) (i := 0) (nk := 1) (As := []) (rest := []) hx hb hml hown hts (c_b_requireOn_ok l hl0 hLi   _ _ _ hc1) st_b_55 (by decide) rfl (by omega) rfl rfl hK hZ hsz hS hW rfl hl.1 (Nat.le_of_ble_eq_true rfl) d_b_enter_1 (by omega) (by omega) (by omega) (by omega) (fun H locs hW hS => ?_)
    refine lv_iload_n hx hb d_b_enter_4 rfl (lv_at hl 1 rfl) ?_
    refine lv_iconst (v := 5) hx hb d_b_enter_5 (by decide) ?_
    refine lv_bipush (v := 40) hx hb d_b_enter_6 (by decide) ?_
    obtain ⟨v2, z2, hc2, hF⟩ := f_bd_some hF
    refine hw_SR (As := [.int a1, .int 5, .int 40]) (rest := []) hx hb hml hown hts (c_b_isWithin_ok l hl0 hLi a1 5 40  _ _ _ hc2) st_b_66 hK hZ hsz hS hW rfl hl.1 (Nat.le_of_ble_eq_true rfl) d_b_enter_8 (by omega) (by omega) (by omega) (by omega) (fun H locs hW hS => ?_)
    rcases f_bx_some hF with ⟨v3, z3, hc3, hF⟩ | ⟨v3, z3, hc3, hF⟩
    · skip
      refine hw_SR (As := [.int v2]) (rest := []) hx hb hml hown hts (c_b_require_ok l hl0 hLi v2  _ _ _ hc3) st_b_62 hK hZ hsz hS hW rfl hl.1 (Nat.le_of_ble_eq_true rfl) d_b_enter_11 (by omega) (by omega) (by omega) (by omega) (fun H locs hW hS => ?_)
      refine lv_aload_n hx hb d_b_enter_14 rfl (lv_at hl 0 rfl) ?_
      refine hw_get (k := 0) (i := 0) (n := 1) (j := 1) (v := .ref (L 11 0)) hx hb hts hown hK hW fl_b_19 rfl (by omega) rfl d_b_enter_15 ?_
      refine lv_iload_n hx hb d_b_enter_18 rfl (lv_at hl 1 rfl) ?_
      obtain ⟨v4, z4, hc4, hF⟩ := f_bd_some hF
      refine hw_VR (k := 11) (i := 0) (nk := 1) (As := [.int a1]) (rest := []) hx hb hml hown hts (c_be_putIn_ok l hl0 hLi a1  _ _ _ hc4) st_b_90 (by decide) rfl (by omega) rfl rfl hK hZ hsz hS hW rfl hl.1 (Nat.le_of_ble_eq_true rfl) d_b_enter_19 (by omega) (by omega) (by omega) (by omega) (fun H locs hW hS => ?_)
      exact hw_iretX hx hb hr hlk (vp_nar_int _) hW hS (by omega) (by omega) d_b_enter_22 hF
    · cases hF
      exact hw_SX (As := [.int v2]) (rest := []) hx hb hml hown hts (c_b_require_ok l hl0 hLi v2  _ _ _ hc3) st_b_62 hK hZ hsz hS hW rfl hl.1 (Nat.le_of_ble_eq_true rfl) d_b_enter_11 (by omega) (by omega) (by omega) (by omega) (fun q ce H locs hW hS hq hv hcl => hw_out (fun x hx => (hno x hx).elim) hlk hW hS hq hv hcl (by omega) (by omega))
  · cases hF
    exact hw_VX (k := 0) (i := 0) (nk := 1) (As := []) (rest := []) hx hb hml hown hts (c_b_requireOn_ok l hl0 hLi   _ _ _ hc1) st_b_55 (by decide) rfl (by omega) rfl rfl hK hZ hsz hS hW rfl hl.1 (Nat.le_of_ble_eq_true rfl) d_b_enter_1 (by omega) (by omega) (by omega) (by omega) (fun q ce H locs hW hS hq hv hcl => hw_out (fun x hx => (hno x hx).elim) hlk hW hS hq hv hcl (by omega) (by omega))
set_option maxRecDepth 100000 in
set_option maxHeartbeats 4000000 in
theorem c_co_isOver_ok (l : Launch) (hl0 : l.stackTraces = false) {L : Nat → Nat → Nat} {Ar : Nat → ClassId} {D : va_G} {b0 : Nat} (hLi : f_L L b0) (a0 : Nat) (a1 : Int32) (h_a0 : a0 < 16) (z : fST) (r : Int32) (z' : fST) (hF : F_co_isOver a0 a1 z = some (r, z')) : f_C l y_co_isOver wt 2 0 L Ar D b0 [.ref (L 13 a0), .int a1] z (.inl (some (.int r))) z' := by
  refine f_ofW (cc := c_co_isOver) (maxL := 2) (ret := (some FieldType.boolean)) (by decide) w_co_isOver (Nat.le_of_ble_eq_true rfl) ?_
  intro p e s m args below meth c R hRf hRl hRc hRs hx hb hr hlk hml hno hts hown hK hZ hsz
  intro H locs ls cells slots hW hS hl hc hs
  have hl : lv_has ls 2 [(0, .ref (L 13 a0)), (1, .int a1)] := hl
  unfold F_co_isOver at hF
  refine lv_aload_n hx hb d_co_isOver_0 rfl (lv_at hl 0 rfl) ?_
  obtain ⟨v1, z1, hc1, hF⟩ := f_bd_some hF
  refine hw_VR (k := 13) (i := a0) (nk := 16) (As := []) (rest := []) hx hb hml hown hts (c_co_rear_ok l hl0 hLi a0 (by omega) _ _ _ hc1) st_co_52 (by decide) rfl (by omega) rfl rfl hK hZ hsz hS hW rfl hl.1 (Nat.le_of_ble_eq_true rfl) d_co_isOver_1 (by omega) (by omega) (by omega) (by omega) (fun H locs hW hS => ?_)
  refine lv_iload_n hx hb d_co_isOver_4 rfl (lv_at hl 1 rfl) ?_
  refine lv_icmp_ge (tgt := 20) hx hb d_co_isOver_5 (by decide) (fun h2 => ?_) (fun h2 => ?_)
  · have hF := (if_pos h2).symm.trans hF
    refine lv_iconst (v := 0) hx hb d_co_isOver_20 (by decide) ?_
    exact hw_iret hx hb hr hlk (f_nZ (Or.inl rfl)) hW hS (by omega) (by omega) d_co_isOver_21 hF
  · have hF := (if_neg h2).symm.trans hF
    refine lv_aload_n hx hb d_co_isOver_8 rfl (lv_at hl 0 rfl) ?_
    refine hw_get (k := 13) (i := a0) (n := 16) (j := 4) (v := .int (f_gI z1 13 a0 4)) hx hb hts hown hK hW fl_co_30 rfl (by omega) rfl d_co_isOver_9 ?_
    refine lv_iload_n hx hb d_co_isOver_12 rfl (lv_at hl 1 rfl) ?_
    refine lv_icmp_lt (tgt := 20) hx hb d_co_isOver_13 (by decide) (fun h3 => ?_) (fun h3 => ?_)
    · have hF := (if_pos h3).symm.trans hF
      refine lv_iconst (v := 0) hx hb d_co_isOver_20 (by decide) ?_
      exact hw_iret hx hb hr hlk (f_nZ (Or.inl rfl)) hW hS (by omega) (by omega) d_co_isOver_21 hF
    · have hF := (if_neg h3).symm.trans hF
      refine lv_iconst (v := 1) hx hb d_co_isOver_16 (by decide) ?_
      refine lv_goto (tgt := 21) hx hb d_co_isOver_17 (by decide) ?_
      exact hw_iret hx hb hr hlk (f_nZ (Or.inr rfl)) hW hS (by omega) (by omega) d_co_isOver_21 hF
end
section
/-! contracts: the method does what its pure function says -/
set_option maxRecDepth 100000 in
set_option maxHeartbeats 4000000 in
theorem c_be_over_ok (l : Launch) (hl0 : l.stackTraces = false) {L : Nat → Nat → Nat} {Ar : Nat → ClassId} {D : va_G} {b0 : Nat} (hLi : f_L L b0) (a1 : Int32)  (z : fST) (r : Option Nat) (z' : fST) (hF : F_be_over a1 z = some (r, z')) : f_C l y_be_over wt 3 0 L Ar D b0 [.ref (L 11 0), .int a1] z (.inl (some (f_rv L 13 r))) z' := by
  refine f_ofW (cc := c_be_over) (maxL := 3) (ret := (Option.some (Jvm.ClassFile.FieldType.object "BottleReturn$Container"))) (by decide) w_be_over (Nat.le_of_ble_eq_true rfl) ?_
  intro p e s m args below meth c R hRf hRl hRc hRs hx hb hr hlk hml hno hts hown hK hZ hsz
  have B2 : ∀  (n : Nat) (x1 : Int32) (x2 : Int32) (z : fST), f_it (b_be_over_2 ) n (x1, x2, z) = some (r, z') →  f_B p l e R s m args below meth c L Ar D b0 3 0 (f_E below args s L Ar D b0 0 (.inl (some (f_rv L 13 r))) z') 0 2 [(0, .ref (L 11 0)), (1, .int x1), (2, .int x2)] [] z := by
    intro  n
    induction n with
    | zero => intro x1 x2 z hF; cases hF
    | succ n ih =>
    intro x1 x2 z hF  H locs ls cells slots hW hS hl hc hs
    have hF := f_it_s hF
    have K2 : ∀ (x1 : Int32) (x2 : Int32) (z : fST), f_it (b_be_over_2 ) n (x1, x2, z) = some (r, z') →  f_B p l e R s m args below meth c L Ar D b0 3 0 (f_E below args s L Ar D b0 0 (.inl (some (f_rv L 13 r))) z') 0 2 [(0, .ref (L 11 0)), (1, .int x1), (2, .int x2)] [] z := fun x1 x2 z hF => ih x1 x2 z hF
    generalize f_it (b_be_over_2 ) n = k2 at hF K2
    unfold b_be_over_2 at hF
    dsimp only at hF
    refine lv_iload_n hx hb d_be_over_2 rfl (lv_at hl 2 rfl) ?_
    refine lv_aload_n hx hb d_be_over_3 rfl (lv_at hl 0 rfl) ?_
    refine hw_get (k := 11) (i := 0) (n := 1) (j := 1) (v := .int (f_gI z 11 0 1)) hx hb hts hown hK hW fl_be_18 rfl (by omega) rfl d_be_over_4 ?_
    refine lv_icmp_ge (tgt := 36) hx hb d_be_over_7 (by decide) (fun h1 => ?_) (fun h1 => ?_)
    · have hF := (if_pos h1).symm.trans hF
      refine lv_null hx hb d_be_over_36 ?_
      exact hw_aret0 hx hb hr (Or.inl ⟨_, rfl⟩) hlk hW hS (by omega) (by omega) d_be_over_37 hF
    · have hF := (if_neg h1).symm.trans hF
      refine lv_aload_n hx hb d_be_over_10 rfl (lv_at hl 0 rfl) ?_
      refine hw_get (k := 11) (i := 0) (n := 1) (j := 0) (v := .ref (L 12 0)) hx hb hts hown hK hW fl_be_11 rfl (by omega) rfl d_be_over_11 ?_
      refine lv_iload_n hx hb d_be_over_14 rfl (lv_at hl 2 rfl) ?_
      obtain ⟨g2, hF⟩ := f_gd_some hF
      obtain ⟨g3, hF⟩ := f_gd_some hF
      have g3 := of_decide_eq_true g3
      refine hw_rald hx hb hK hW g2 d_be_over_15 ?_
      refine lv_iload_n hx hb d_be_over_16 rfl (lv_at hl 1 rfl) ?_
      obtain ⟨v4, z4, hc4, hF⟩ := f_bd_some hF
      refine hw_VR (k := 13) (i := f_gR z (f_ix x2)) (nk := 16) (As := [.int x1]) (rest := []) hx hb hml hown hts (c_co_isOver_ok l hl0 hLi (f_gR z (f_ix x2)) x1 (by omega) _ _ _ hc4) st_be_33 (by decide) rfl (by omega) rfl rfl hK hZ hsz hS hW rfl hl.1 (Nat.le_of_ble_eq_true rfl) d_be_over_17 (by omega) (by omega) (by omega) (by omega) (fun H locs hW hS => ?_)
      refine lv_if_eq (tgt := 30) hx hb d_be_over_20 (by decide) (fun h5 => ?_) (fun h5 => ?_)
      · have hF := (if_pos h5).symm.trans hF
        refine lv_iinc (k := 2) (x := x2) (v := x2 + 1) (lv' := [(2, .int (x2 + 1)), (0, .ref (L 11 0)), (1, .int x1)]) hx hb d_be_over_30 hl rfl rfl (by decide) rfl (fun ls hl => ?_)
        refine lv_goto (tgt := 2) hx hb d_be_over_33 (by decide) ?_
        exact K2 x1 (x2 + 1) z4 hF _ _ _ _ _ hW hS (lv_sub hl [1, 2, 0] rfl) (by omega) (by omega)
      · have hF := (if_neg h5).symm.trans hF
        refine lv_aload_n hx hb d_be_over_23 rfl (lv_at hl 0 rfl) ?_
        refine hw_get (k := 11) (i := 0) (n := 1) (j := 0) (v := .ref (L 12 0)) hx hb hts hown hK hW fl_be_11 rfl (by omega) rfl d_be_over_24 ?_
        refine lv_iload_n hx hb d_be_over_27 rfl (lv_at hl 2 rfl) ?_
        obtain ⟨g6, hF⟩ := f_gd_some hF
        obtain ⟨g7, hF⟩ := f_gd_some hF
        have g7 := of_decide_eq_true g7
        refine hw_rald hx hb hK hW g6 d_be_over_28 ?_
        exact hw_aret hx hb hr (Or.inl ⟨_, rfl⟩) hlk hW hS (by omega) (by omega) d_be_over_29 hF
  intro H locs ls cells slots hW hS hl hc hs
  have hl : lv_has ls 3 [(0, .ref (L 11 0)), (1, .int a1)] := hl
  unfold F_be_over at hF
  refine lv_iconst (v := 0) hx hb d_be_over_0 (by decide) ?_
  refine lv_istore_n (lv' := [(2, .int 0), (0, .ref (L 11 0)), (1, .int a1)]) hx hb d_be_over_1 rfl hl (by decide) rfl (fun ls hl => ?_)
  exact B2 2000 a1 0 z hF _ _ _ _ _ hW hS (lv_sub hl [1, 2, 0] rfl) (by omega) (by omega)
set_option maxRecDepth 100000 in
set_option maxHeartbeats 4000000 in
theorem c_ro_isFull_ok (l : Launch) (hl0 : l.stackTraces = false) {L : Nat → Nat → Nat} {Ar : Nat → ClassId} {D : va_G} {b0 : Nat} (hLi : f_L L b0) (a0 : Nat) (h_a0 : a0 < 32) (z : fST) (r : Int32) (z' : fST) (hF : F_ro_isFull a0 z = some (r, z')) : f_C l y_ro_isFull wt 1 0 L Ar D b0 [.ref (L 14 a0)] z (.inl (some (.int r))) z' := by
  refine f_ofW (cc := c_ro_isFull) (maxL := 1) (ret := (some FieldType.boolean)) (by decide) w_ro_isFull (Nat.le_of_ble_eq_true rfl) ?_
  intro p e s m args below meth c R hRf hRl hRc hRs hx hb hr hlk hml hno hts hown hK hZ hsz
  intro H locs ls cells slots hW hS hl hc hs
  have hl : lv_has ls 1 [(0, .ref (L 14 a0))] := hl
  unfold F_ro_isFull at hF
  refine lv_aload_n hx hb d_ro_isFull_0 rfl (lv_at hl 0 rfl) ?_
  refine hw_get (k := 14) (i := a0) (n := 32) (j := 1) (v := .int (f_gI z 14 a0 1)) hx hb hts hown hK hW fl_ro_13 rfl (by omega) rfl d_ro_isFull_1 ?_
  refine lv_aload_n hx hb d_ro_isFull_4 rfl (lv_at hl 0 rfl) ?_
  refine hw_get (k := 14) (i := a0) (n := 32) (j := 0) (v := .ref (L 15 a0)) hx hb hts hown hK hW fl_ro_7 rfl (by omega) rfl d_ro_isFull_5 ?_
  refine hw_alen (k := 15) (i := a0) (n := 32) hx hb hK hW (by decide) rfl (by omega) rfl d_ro_isFull_8 ?_
  refine lv_icmp_lt (tgt := 16) hx hb d_ro_isFull_9 (by decide) (fun h1 => ?_) (fun h1 => ?_)
  · have hF := (if_pos h1).symm.trans hF
    refine lv_iconst (v := 0) hx hb d_ro_isFull_16 (by decide) ?_
    exact hw_iret hx hb hr hlk (f_nZ (Or.inl rfl)) hW hS (by omega) (by omega) d_ro_isFull_17 hF
  · have hF := (if_neg h1).symm.trans hF
    refine lv_iconst (v := 1) hx hb d_ro_isFull_12 (by decide) ?_
    refine lv_goto (tgt := 17) hx hb d_ro_isFull_13 (by decide) ?_
    exact hw_iret hx hb hr hlk (f_nZ (Or.inr rfl)) hW hS (by omega) (by omega) d_ro_isFull_17 hF
set_option maxRecDepth 100000 in
set_option maxHeartbeats 4000000 in
theorem c_ro_take_ok (l : Launch) (hl0 : l.stackTraces = false) {L : Nat → Nat → Nat} {Ar : Nat → ClassId} {D : va_G} {b0 : Nat} (hLi : f_L L b0) (a0 : Nat) (a1 : Int32) (h_a0 : a0 < 32) (z : fST) (r : Int32) (z' : fST) (hF : F_ro_take a0 a1 z = some (r, z')) : f_C l y_ro_take wt 2 0 L Ar D b0 [.ref (L 14 a0), .int a1] z (.inl (some (.int r))) z' := by
  refine f_ofW (cc := c_ro_take) (maxL := 2) (ret := (some FieldType.boolean)) (by decide) w_ro_take (Nat.le_of_ble_eq_true rfl) ?_
  intro p e s m args below meth c R hRf hRl hRc hRs hx hb hr hlk hml hno hts hown hK hZ hsz
  intro H locs ls cells slots hW hS hl hc hs
  have hl : lv_has ls 2 [(0, .ref (L 14 a0)), (1, .int a1)] := hl
  unfold F_ro_take at hF
  refine lv_aload_n hx hb d_ro_take_0 rfl (lv_at hl 0 rfl) ?_
  obtain ⟨v1, z1, hc1, hF⟩ := f_bd_some hF
  refine hw_VR (k := 14) (i := a0) (nk := 32) (As := []) (rest := []) hx hb hml hown hts (c_ro_isFull_ok l hl0 hLi a0 (by omega) _ _ _ hc1) st_ro_17 (by decide) rfl (by omega) rfl rfl hK hZ hsz hS hW rfl hl.1 (Nat.le_of_ble_eq_true rfl) d_ro_take_1 (by omega) (by omega) (by omega) (by omega) (fun H locs hW hS => ?_)
  refine lv_if_eq (tgt := 9) hx hb d_ro_take_4 (by decide) (fun h2 => ?_) (fun h2 => ?_)
  · have hF := (if_pos h2).symm.trans hF
    refine lv_aload_n hx hb d_ro_take_9 rfl (lv_at hl 0 rfl) ?_
    refine hw_get (k := 14) (i := a0) (n := 32) (j := 0) (v := .ref (L 15 a0)) hx hb hts hown hK hW fl_ro_7 rfl (by omega) rfl d_ro_take_10 ?_
    refine lv_aload_n hx hb d_ro_take_13 rfl (lv_at hl 0 rfl) ?_
    refine hw_get (k := 14) (i := a0) (n := 32) (j := 1) (v := .int (f_gI z1 14 a0 1)) hx hb hts hown hK hW fl_ro_13 rfl (by omega) rfl d_ro_take_14 ?_
    refine lv_iload_n hx hb d_ro_take_17 rfl (lv_at hl 1 rfl) ?_
    obtain ⟨g3, hF⟩ := f_gd_some hF
    refine hw_iast (k := 15) (i := a0) (n := 32) hx hb hK hLi hW hS (by decide) rfl (by omega) rfl g3 d_ro_take_18 (fun H locs hW hS => ?_)
    refine lv_aload_n hx hb d_ro_take_19 rfl (lv_at hl 0 rfl) ?_
    refine lv_dup hx hb d_ro_take_20 rfl ?_
    refine hw_get (k := 14) (i := a0) (n := 32) (j := 1) (v := .int (f_gI (f_pI z1 15 a0 (f_ix (f_gI z1 14 a0 1)) a1) 14 a0 1)) hx hb hts hown hK hW fl_ro_13 rfl (by omega) rfl d_ro_take_21 ?_
    refine lv_iconst (v := 1) hx hb d_ro_take_24 (by decide) ?_
    refine lv_iadd hx hb d_ro_take_25 ?_
    refine hw_put (k := 14) (i := a0) (n := 32) (j := 1) (v := (f_gI (f_pI z1 15 a0 (f_ix (f_gI z1 14 a0 1)) a1) 14 a0 1) + 1) hx hb hts hown hK hLi hW hS fp_ro_13 (vp_nar_int _) rfl rfl (by omega) d_ro_take_26 (fun H locs hW hS => ?_)
    refine lv_iconst (v := 1) hx hb d_ro_take_29 (by decide) ?_
    exact hw_iret hx hb hr hlk (f_nZ (Or.inr rfl)) hW hS (by omega) (by omega) d_ro_take_30 hF
  · have hF := (if_neg h2).symm.trans hF
    refine lv_iconst (v := 0) hx hb d_ro_take_7 (by decide) ?_
    exact hw_iret hx hb hr hlk (f_nZ (Or.inl rfl)) hW hS (by omega) (by omega) d_ro_take_8 hF
set_option maxRecDepth 100000 in
set_option maxHeartbeats 4000000 in
theorem c_b_code_ok (l : Launch) (hl0 : l.stackTraces = false) {L : Nat → Nat → Nat} {Ar : Nat → ClassId} {D : va_G} {b0 : Nat} (hLi : f_L L b0) (a1 : Int32)  (z : fST) (r : Int32 ⊕ Nat) (z' : fST) (hF : F_b_code a1 z = some (r, z')) : f_C l y_b_code wt 8 2 L Ar D b0 [.ref (L 0 0), .int a1] z (f_oi r) z' := by
  refine f_ofW (cc := c_b_code) (maxL := 3) (ret := (some FieldType.boolean)) (by decide) w_b_code (Nat.le_of_ble_eq_true rfl) ?_
  intro p e s m args below meth c R hRf hRl hRc hRs hx hb hr hlk hml hno hts hown hK hZ hsz
  intro H locs ls cells slots hW hS hl hc hs
  have hl : lv_has ls 3 [(0, .ref (L 0 0)), (1, .int a1)] := hl
  unfold F_b_code at hF
  refine lv_aload_n hx hb d_b_code_0 rfl (lv_at hl 0 rfl) ?_
  rcases f_bx_some hF with ⟨v1, z1, hc1, hF⟩ | ⟨v1, z1, hc1, hF⟩
  · skip
    refine hw_VR (k := 0) (i := 0) (nk := 1) (As := []) (rest := []) hx hb hml hown hts (c_b_requireOn_ok l hl0 hLi   _ _ _ hc1) st_b_55 (by decide) rfl (by omega) rfl rfl hK hZ hsz hS hW rfl hl.1 (Nat.le_of_ble_eq_true rfl) d_b_code_1 (by omega) (by omega) (by omega) (by omega) (fun H locs hW hS => ?_)
    refine lv_iload_n hx hb d_b_code_4 rfl (lv_at hl 1 rfl) ?_
    refine lv_iconst (v := 1) hx hb d_b_code_5 (by decide) ?_
    refine lv_ldc (v := 999999) hx hb hown (hts _ (wt_in (List.mem_of_getElem? (i := 418) (by decide +kernel)) rfl)) d_b_code_6 ?_
    obtain ⟨v2, z2, hc2, hF⟩ := f_bd_some hF
    refine hw_SR (As := [.int a1, .int 1, .int 999999]) (rest := []) hx hb hml hown hts (c_b_isWithin_ok l hl0 hLi a1 1 999999  _ _ _ hc2) st_b_66 hK hZ hsz hS hW rfl hl.1 (Nat.le_of_ble_eq_true rfl) d_b_code_8 (by omega) (by omega) (by omega) (by omega) (fun H locs hW hS => ?_)
    rcases f_bx_some hF with ⟨v3, z3, hc3, hF⟩ | ⟨v3, z3, hc3, hF⟩
    · skip
      refine hw_SR (As := [.int v2]) (rest := []) hx hb hml hown hts (c_b_require_ok l hl0 hLi v2  _ _ _ hc3) st_b_62 hK hZ hsz hS hW rfl hl.1 (Nat.le_of_ble_eq_true rfl) d_b_code_11 (by omega) (by omega) (by omega) (by omega) (fun H locs hW hS => ?_)
      refine lv_aload_n hx hb d_b_code_14 rfl (lv_at hl 0 rfl) ?_
      refine hw_get (k := 0) (i := 0) (n := 1) (j := 1) (v := .ref (L 11 0)) hx hb hts hown hK hW fl_b_19 rfl (by omega) rfl d_b_code_15 ?_
      refine lv_bipush (v := 15) hx hb d_b_code_18 (by decide) ?_
      obtain ⟨v4, z4, hc4, hF⟩ := f_bd_some hF
      cases v4 with
      | none =>
        have hF := f_cz_n hF
        refine hw_VR (k := 11) (i := 0) (nk := 1) (As := [.int 15]) (rest := []) hx hb hml hown hts (c_be_over_ok l hl0 hLi 15  _ _ _ hc4) st_b_93 (by decide) rfl (by omega) rfl rfl hK hZ hsz hS hW rfl hl.1 (Nat.le_of_ble_eq_true rfl) d_b_code_20 (by omega) (by omega) (by omega) (by omega) (fun H locs hW hS => ?_)
        refine lv_astore_nN (lv' := [(2, .null), (0, .ref (L 0 0)), (1, .int a1)]) hx hb d_b_code_23 rfl hl (by decide) rfl (fun ls hl => ?_)
        refine lv_aload_nN hx hb d_b_code_24 rfl (lv_at hl 0 rfl) ?_
        refine lv_ifnullN (tgt := 43) hx hb d_b_code_25 (by decide) ?_
        refine lv_iconst (v := 0) hx hb d_b_code_43 (by decide) ?_
        exact hw_iretX hx hb hr hlk (f_nZ (Or.inl rfl)) hW hS (by omega) (by omega) d_b_code_44 hF
      | some i4 =>
        obtain ⟨hi4, hF⟩ := f_gd_some (f_cz_s hF)
        have hi4 := of_decide_eq_true hi4
        refine hw_VR (k := 11) (i := 0) (nk := 1) (As := [.int 15]) (rest := []) hx hb hml hown hts (c_be_over_ok l hl0 hLi 15  _ _ _ hc4) st_b_93 (by decide) rfl (by omega) rfl rfl hK hZ hsz hS hW rfl hl.1 (Nat.le_of_ble_eq_true rfl) d_b_code_20 (by omega) (by omega) (by omega) (by omega) (fun H locs hW hS => ?_)
        refine lv_astore_n (lv' := [(2, .ref (L 13 i4)), (0, .ref (L 0 0)), (1, .int a1)]) hx hb d_b_code_23 rfl hl (by decide) rfl (fun ls hl => ?_)
        refine lv_aload_n hx hb d_b_code_24 rfl (lv_at hl 0 rfl) ?_
        refine lv_ifnull hx hb d_b_code_25 ?_
        refine lv_aload_n hx hb d_b_code_28 rfl (lv_at hl 0 rfl) ?_
        refine hw_get (k := 13) (i := i4) (n := 16) (j := 0) (v := .ref (L 14 i4)) hx hb hts hown hK hW fl_b_97 rfl (by omega) rfl d_b_code_29 ?_
        refine lv_iload_n hx hb d_b_code_32 rfl (lv_at hl 2 rfl) ?_
        obtain ⟨v5, z5, hc5, hF⟩ := f_bd_some hF
        refine hw_VR (k := 14) (i := i4) (nk := 32) (As := [.int a1]) (rest := []) hx hb hml hown hts (c_ro_take_ok l hl0 hLi i4 a1 (by omega) _ _ _ hc5) st_b_103 (by decide) rfl (by omega) rfl rfl hK hZ hsz hS hW rfl hl.1 (Nat.le_of_ble_eq_true rfl) d_b_code_33 (by omega) (by omega) (by omega) (by omega) (fun H locs hW hS => ?_)
        refine lv_if_eq (tgt := 43) hx hb d_b_code_36 (by decide) (fun h6 => ?_) (fun h6 => ?_)
        · have hF := (if_pos h6).symm.trans hF
          refine lv_iconst (v := 0) hx hb d_b_code_43 (by decide) ?_
          exact hw_iretX hx hb hr hlk (f_nZ (Or.inl rfl)) hW hS (by omega) (by omega) d_b_code_44 hF
        · have hF := (if_neg h6).symm.trans hF
          refine lv_iconst (v := 1) hx hb d_b_code_39 (by decide) ?_
          refine lv_goto (tgt := 44) hx hb d_b_code_40 (by decide) ?_
          exact hw_iretX hx hb hr hlk (f_nZ (Or.inr rfl)) hW hS (by omega) (by omega) d_b_code_44 hF
    · cases hF
      exact hw_SX (As := [.int v2]) (rest := []) hx hb hml hown hts (c_b_require_ok l hl0 hLi v2  _ _ _ hc3) st_b_62 hK hZ hsz hS hW rfl hl.1 (Nat.le_of_ble_eq_true rfl) d_b_code_11 (by omega) (by omega) (by omega) (by omega) (fun q ce H locs hW hS hq hv hcl => hw_out (fun x hx => (hno x hx).elim) hlk hW hS hq hv hcl (by omega) (by omega))
  · cases hF
    exact hw_VX (k := 0) (i := 0) (nk := 1) (As := []) (rest := []) hx hb hml hown hts (c_b_requireOn_ok l hl0 hLi   _ _ _ hc1) st_b_55 (by decide) rfl (by omega) rfl rfl hK hZ hsz hS hW rfl hl.1 (Nat.le_of_ble_eq_true rfl) d_b_code_1 (by omega) (by omega) (by omega) (by omega) (fun q ce H locs hW hS hq hv hcl => hw_out (fun x hx => (hno x hx).elim) hlk hW hS hq hv hcl (by omega) (by omega))
set_option maxRecDepth 100000 in
set_option maxHeartbeats 4000000 in
theorem c_b_width_ok (l : Launch) (hl0 : l.stackTraces = false) {L : Nat → Nat → Nat} {Ar : Nat → ClassId} {D : va_G} {b0 : Nat} (hLi : f_L L b0) (a1 : Int32)  (z : fST) (r : Int32 ⊕ Nat) (z' : fST) (hF : F_b_width a1 z = some (r, z')) : f_C l y_b_width wt 8 2 L Ar D b0 [.ref (L 0 0), .int a1] z (f_oi r) z' := by
  refine f_ofW (cc := c_b_width) (maxL := 3) (ret := (some FieldType.boolean)) (by decide) w_b_width (Nat.le_of_ble_eq_true rfl) ?_
  intro p e s m args below meth c R hRf hRl hRc hRs hx hb hr hlk hml hno hts hown hK hZ hsz
  intro H locs ls cells slots hW hS hl hc hs
  have hl : lv_has ls 3 [(0, .ref (L 0 0)), (1, .int a1)] := hl
  unfold F_b_width at hF
  refine lv_aload_n hx hb d_b_width_0 rfl (lv_at hl 0 rfl) ?_
  rcases f_bx_some hF with ⟨v1, z1, hc1, hF⟩ | ⟨v1, z1, hc1, hF⟩
  · skip
    refine hw_VR (k := 0) (i := 0) (nk := 1) (As := []) (rest := []) hx hb hml hown hts (c_b_requireOn_ok l hl0 hLi   _ _ _ hc1) st_b_55 (by decide) rfl (by omega) rfl rfl hK hZ hsz hS hW rfl hl.1 (Nat.le_of_ble_eq_true rfl) d_b_width_1 (by omega) (by omega) (by omega) (by omega) (fun H locs hW hS => ?_)
    refine lv_iload_n hx hb d_b_width_4 rfl (lv_at hl 1 rfl) ?_
    refine lv_iconst (v := 0) hx hb d_b_width_5 (by decide) ?_
    refine lv_sipush (v := 255) hx hb d_b_width_6 (by decide) ?_
    obtain ⟨v2, z2, hc2, hF⟩ := f_bd_some hF
    refine hw_SR (As := [.int a1, .int 0, .int 255]) (rest := []) hx hb hml hown hts (c_b_isWithin_ok l hl0 hLi a1 0 255  _ _ _ hc2) st_b_66 hK hZ hsz hS hW rfl hl.1 (Nat.le_of_ble_eq_true rfl) d_b_width_9 (by omega) (by omega) (by omega) (by omega) (fun H locs hW hS => ?_)
    rcases f_bx_some hF with ⟨v3, z3, hc3, hF⟩ | ⟨v3, z3, hc3, hF⟩
    · skip
      refine hw_SR (As := [.int v2]) (rest := []) hx hb hml hown hts (c_b_require_ok l hl0 hLi v2  _ _ _ hc3) st_b_62 hK hZ hsz hS hW rfl hl.1 (Nat.le_of_ble_eq_true rfl) d_b_width_12 (by omega) (by omega) (by omega) (by omega) (fun H locs hW hS => ?_)
      refine lv_aload_n hx hb d_b_width_15 rfl (lv_at hl 0 rfl) ?_
      refine hw_get (k := 0) (i := 0) (n := 1) (j := 1) (v := .ref (L 11 0)) hx hb hts hown hK hW fl_b_19 rfl (by omega) rfl d_b_width_16 ?_
      refine lv_bipush (v := 30) hx hb d_b_width_19 (by decide) ?_
      obtain ⟨v4, z4, hc4, hF⟩ := f_bd_some hF
      cases v4 with
      | none =>
        have hF := f_cz_n hF
        refine hw_VR (k := 11) (i := 0) (nk := 1) (As := [.int 30]) (rest := []) hx hb hml hown hts (c_be_over_ok l hl0 hLi 30  _ _ _ hc4) st_b_93 (by decide) rfl (by omega) rfl rfl hK hZ hsz hS hW rfl hl.1 (Nat.le_of_ble_eq_true rfl) d_b_width_21 (by omega) (by omega) (by omega) (by omega) (fun H locs hW hS => ?_)
        refine lv_astore_nN (lv' := [(2, .null), (0, .ref (L 0 0)), (1, .int a1)]) hx hb d_b_width_24 rfl hl (by decide) rfl (fun ls hl => ?_)
        refine lv_aload_nN hx hb d_b_width_25 rfl (lv_at hl 0 rfl) ?_
        refine lv_ifnullN (tgt := 44) hx hb d_b_width_26 (by decide) ?_
        refine lv_iconst (v := 0) hx hb d_b_width_44 (by decide) ?_
        exact hw_iretX hx hb hr hlk (f_nZ (Or.inl rfl)) hW hS (by omega) (by omega) d_b_width_45 hF
      | some i4 =>
        obtain ⟨hi4, hF⟩ := f_gd_some (f_cz_s hF)
        have hi4 := of_decide_eq_true hi4
        refine hw_VR (k := 11) (i := 0) (nk := 1) (As := [.int 30]) (rest := []) hx hb hml hown hts (c_be_over_ok l hl0 hLi 30  _ _ _ hc4) st_b_93 (by decide) rfl (by omega) rfl rfl hK hZ hsz hS hW rfl hl.1 (Nat.le_of_ble_eq_true rfl) d_b_width_21 (by omega) (by omega) (by omega) (by omega) (fun H locs hW hS => ?_)
        refine lv_astore_n (lv' := [(2, .ref (L 13 i4)), (0, .ref (L 0 0)), (1, .int a1)]) hx hb d_b_width_24 rfl hl (by decide) rfl (fun ls hl => ?_)
        refine lv_aload_n hx hb d_b_width_25 rfl (lv_at hl 0 rfl) ?_
        refine lv_ifnull hx hb d_b_width_26 ?_
        refine lv_aload_n hx hb d_b_width_29 rfl (lv_at hl 0 rfl) ?_
        refine hw_get (k := 13) (i := i4) (n := 16) (j := 1) (v := .ref (L 14 (i4 + 16))) hx hb hts hown hK hW fl_b_109 rfl (by omega) rfl d_b_width_30 ?_
        refine lv_iload_n hx hb d_b_width_33 rfl (lv_at hl 2 rfl) ?_
        obtain ⟨v5, z5, hc5, hF⟩ := f_bd_some hF
        refine hw_VR (k := 14) (i := i4 + 16) (nk := 32) (As := [.int a1]) (rest := []) hx hb hml hown hts (c_ro_take_ok l hl0 hLi (i4 + 16) a1 (by omega) _ _ _ hc5) st_b_103 (by decide) rfl (by omega) rfl rfl hK hZ hsz hS hW rfl hl.1 (Nat.le_of_ble_eq_true rfl) d_b_width_34 (by omega) (by omega) (by omega) (by omega) (fun H locs hW hS => ?_)
        refine lv_if_eq (tgt := 44) hx hb d_b_width_37 (by decide) (fun h6 => ?_) (fun h6 => ?_)
        · have hF := (if_pos h6).symm.trans hF
          refine lv_iconst (v := 0) hx hb d_b_width_44 (by decide) ?_
          exact hw_iretX hx hb hr hlk (f_nZ (Or.inl rfl)) hW hS (by omega) (by omega) d_b_width_45 hF
        · have hF := (if_neg h6).symm.trans hF
          refine lv_iconst (v := 1) hx hb d_b_width_40 (by decide) ?_
          refine lv_goto (tgt := 45) hx hb d_b_width_41 (by decide) ?_
          exact hw_iretX hx hb hr hlk (f_nZ (Or.inr rfl)) hW hS (by omega) (by omega) d_b_width_45 hF
    · cases hF
      exact hw_SX (As := [.int v2]) (rest := []) hx hb hml hown hts (c_b_require_ok l hl0 hLi v2  _ _ _ hc3) st_b_62 hK hZ hsz hS hW rfl hl.1 (Nat.le_of_ble_eq_true rfl) d_b_width_12 (by omega) (by omega) (by omega) (by omega) (fun q ce H locs hW hS hq hv hcl => hw_out (fun x hx => (hno x hx).elim) hlk hW hS hq hv hcl (by omega) (by omega))
  · cases hF
    exact hw_VX (k := 0) (i := 0) (nk := 1) (As := []) (rest := []) hx hb hml hown hts (c_b_requireOn_ok l hl0 hLi   _ _ _ hc1) st_b_55 (by decide) rfl (by omega) rfl rfl hK hZ hsz hS hW rfl hl.1 (Nat.le_of_ble_eq_true rfl) d_b_width_1 (by omega) (by omega) (by omega) (by omega) (fun q ce H locs hW hS hq hv hcl => hw_out (fun x hx => (hno x hx).elim) hlk hW hS hq hv hcl (by omega) (by omega))
set_option maxRecDepth 100000 in
set_option maxHeartbeats 4000000 in
theorem c_b_weigh_ok (l : Launch) (hl0 : l.stackTraces = false) {L : Nat → Nat → Nat} {Ar : Nat → ClassId} {D : va_G} {b0 : Nat} (hLi : f_L L b0) (a1 : Int32)  (z : fST) (r : Int32 ⊕ Nat) (z' : fST) (hF : F_b_weigh a1 z = some (r, z')) : f_C l y_b_weigh wt 8 2 L Ar D b0 [.ref (L 0 0), .int a1] z (f_oi r) z' := by
  refine f_ofW (cc := c_b_weigh) (maxL := 3) (ret := (some FieldType.boolean)) (by decide) w_b_weigh (Nat.le_of_ble_eq_true rfl) ?_
  intro p e s m args below meth c R hRf hRl hRc hRs hx hb hr hlk hml hno hts hown hK hZ hsz
  intro H locs ls cells slots hW hS hl hc hs
  have hl : lv_has ls 3 [(0, .ref (L 0 0)), (1, .int a1)] := hl
  unfold F_b_weigh at hF
  refine lv_aload_n hx hb d_b_weigh_0 rfl (lv_at hl 0 rfl) ?_
  rcases f_bx_some hF with ⟨v1, z1, hc1, hF⟩ | ⟨v1, z1, hc1, hF⟩
  · skip
    refine hw_VR (k := 0) (i := 0) (nk := 1) (As := []) (rest := []) hx hb hml hown hts (c_b_requireOn_ok l hl0 hLi   _ _ _ hc1) st_b_55 (by decide) rfl (by omega) rfl rfl hK hZ hsz hS hW rfl hl.1 (Nat.le_of_ble_eq_true rfl) d_b_weigh_1 (by omega) (by omega) (by omega) (by omega) (fun H locs hW hS => ?_)
    refine lv_iload_n hx hb d_b_weigh_4 rfl (lv_at hl 1 rfl) ?_
    refine lv_iconst (v := 0) hx hb d_b_weigh_5 (by decide) ?_
    refine lv_sipush (v := 5000) hx hb d_b_weigh_6 (by decide) ?_
    obtain ⟨v2, z2, hc2, hF⟩ := f_bd_some hF
    refine hw_SR (As := [.int a1, .int 0, .int 5000]) (rest := []) hx hb hml hown hts (c_b_isWithin_ok l hl0 hLi a1 0 5000  _ _ _ hc2) st_b_66 hK hZ hsz hS hW rfl hl.1 (Nat.le_of_ble_eq_true rfl) d_b_weigh_9 (by omega) (by omega) (by omega) (by omega) (fun H locs hW hS => ?_)
    rcases f_bx_some hF with ⟨v3, z3, hc3, hF⟩ | ⟨v3, z3, hc3, hF⟩
    · skip
      refine hw_SR (As := [.int v2]) (rest := []) hx hb hml hown hts (c_b_require_ok l hl0 hLi v2  _ _ _ hc3) st_b_62 hK hZ hsz hS hW rfl hl.1 (Nat.le_of_ble_eq_true rfl) d_b_weigh_12 (by omega) (by omega) (by omega) (by omega) (fun H locs hW hS => ?_)
      refine lv_aload_n hx hb d_b_weigh_15 rfl (lv_at hl 0 rfl) ?_
      refine hw_get (k := 0) (i := 0) (n := 1) (j := 1) (v := .ref (L 11 0)) hx hb hts hown hK hW fl_b_19 rfl (by omega) rfl d_b_weigh_16 ?_
      refine lv_bipush (v := 45) hx hb d_b_weigh_19 (by decide) ?_
      obtain ⟨v4, z4, hc4, hF⟩ := f_bd_some hF
      cases v4 with
      | none =>
        have hF := f_cz_n hF
        refine hw_VR (k := 11) (i := 0) (nk := 1) (As := [.int 45]) (rest := []) hx hb hml hown hts (c_be_over_ok l hl0 hLi 45  _ _ _ hc4) st_b_93 (by decide) rfl (by omega) rfl rfl hK hZ hsz hS hW rfl hl.1 (Nat.le_of_ble_eq_true rfl) d_b_weigh_21 (by omega) (by omega) (by omega) (by omega) (fun H locs hW hS => ?_)
        refine lv_astore_nN (lv' := [(2, .null), (0, .ref (L 0 0)), (1, .int a1)]) hx hb d_b_weigh_24 rfl hl (by decide) rfl (fun ls hl => ?_)
        refine lv_aload_nN hx hb d_b_weigh_25 rfl (lv_at hl 0 rfl) ?_
        refine lv_ifnonnullN hx hb d_b_weigh_26 ?_
        refine lv_iconst (v := 0) hx hb d_b_weigh_29 (by decide) ?_
        exact hw_iretX hx hb hr hlk (f_nZ (Or.inl rfl)) hW hS (by omega) (by omega) d_b_weigh_30 hF
      | some i4 =>
        obtain ⟨hi4, hF⟩ := f_gd_some (f_cz_s hF)
        have hi4 := of_decide_eq_true hi4
        refine hw_VR (k := 11) (i := 0) (nk := 1) (As := [.int 45]) (rest := []) hx hb hml hown hts (c_be_over_ok l hl0 hLi 45  _ _ _ hc4) st_b_93 (by decide) rfl (by omega) rfl rfl hK hZ hsz hS hW rfl hl.1 (Nat.le_of_ble_eq_true rfl) d_b_weigh_21 (by omega) (by omega) (by omega) (by omega) (fun H locs hW hS => ?_)
        refine lv_astore_n (lv' := [(2, .ref (L 13 i4)), (0, .ref (L 0 0)), (1, .int a1)]) hx hb d_b_weigh_24 rfl hl (by decide) rfl (fun ls hl => ?_)
        refine lv_aload_n hx hb d_b_weigh_25 rfl (lv_at hl 0 rfl) ?_
        refine lv_ifnonnull (tgt := 31) hx hb d_b_weigh_26 (by decide) ?_
        refine lv_aload_n hx hb d_b_weigh_31 rfl (lv_at hl 0 rfl) ?_
        refine lv_iload_n hx hb d_b_weigh_32 rfl (lv_at hl 2 rfl) ?_
        refine hw_put (k := 13) (i := i4) (n := 16) (j := 5) (v := a1) hx hb hts hown hK hLi hW hS fp_b_112 (vp_nar_int _) rfl rfl (by omega) d_b_weigh_33 (fun H locs hW hS => ?_)
        refine lv_iconst (v := 1) hx hb d_b_weigh_36 (by decide) ?_
        exact hw_iretX hx hb hr hlk (f_nZ (Or.inr rfl)) hW hS (by omega) (by omega) d_b_weigh_37 hF
    · cases hF
      exact hw_SX (As := [.int v2]) (rest := []) hx hb hml hown hts (c_b_require_ok l hl0 hLi v2  _ _ _ hc3) st_b_62 hK hZ hsz hS hW rfl hl.1 (Nat.le_of_ble_eq_true rfl) d_b_weigh_12 (by omega) (by omega) (by omega) (by omega) (fun q ce H locs hW hS hq hv hcl => hw_out (fun x hx => (hno x hx).elim) hlk hW hS hq hv hcl (by omega) (by omega))
  · cases hF
    exact hw_VX (k := 0) (i := 0) (nk := 1) (As := []) (rest := []) hx hb hml hown hts (c_b_requireOn_ok l hl0 hLi   _ _ _ hc1) st_b_55 (by decide) rfl (by omega) rfl rfl hK hZ hsz hS hW rfl hl.1 (Nat.le_of_ble_eq_true rfl) d_b_weigh_1 (by omega) (by omega) (by omega) (by omega) (fun q ce H locs hW hS hq hv hcl => hw_out (fun x hx => (hno x hx).elim) hlk hW hS hq hv hcl (by omega) (by omega))
set_option maxRecDepth 100000 in
set_option maxHeartbeats 4000000 in
theorem c_be_isBlocked_ok (l : Launch) (hl0 : l.stackTraces = false) {L : Nat → Nat → Nat} {Ar : Nat → ClassId} {D : va_G} {b0 : Nat} (hLi : f_L L b0)   (z : fST) (r : Int32) (z' : fST) (hF : F_be_isBlocked  z = some (r, z')) : f_C l y_be_isBlocked wt 1 0 L Ar D b0 [.ref (L 11 0)] z (.inl (some (.int r))) z' := by
  refine f_ofW (cc := c_be_isBlocked) (maxL := 2) (ret := (some FieldType.boolean)) (by decide) w_be_isBlocked (Nat.le_of_ble_eq_true rfl) ?_
  intro p e s m args below meth c R hRf hRl hRc hRs hx hb hr hlk hml hno hts hown hK hZ hsz
  have B40 : ∀ (k2 : Int32 × fST → Option (Int32 × fST)) (K2 : ∀ (x1 : Int32) (z : fST), k2 (x1, z) = some (r, z') →  f_B p l e R s m args below meth c L Ar D b0 2 0 (f_E below args s L Ar D b0 0 (.inl (some (.int r))) z') 0 2 [(0, .ref (L 11 0)), (1, .int x1)] [] z) (x1 : Int32) (z : fST), b_be_isBlocked_40 k2 x1 z = some (r, z') →  f_B p l e R s m args below meth c L Ar D b0 2 0 (f_E below args s L Ar D b0 0 (.inl (some (.int r))) z') 0 40 [(0, .ref (L 11 0)), (1, .int x1)] [] z := by
    intro k2 K2 x1 z hF  H locs ls cells slots hW hS hl hc hs
    unfold b_be_isBlocked_40 at hF
    refine lv_iinc (k := 1) (x := x1) (v := x1 + 1) (lv' := [(1, .int (x1 + 1)), (0, .ref (L 11 0))]) hx hb d_be_isBlocked_40 hl rfl rfl (by decide) rfl (fun ls hl => ?_)
    refine lv_goto (tgt := 2) hx hb d_be_isBlocked_43 (by decide) ?_
    exact K2 (x1 + 1) z hF _ _ _ _ _ hW hS (lv_sub hl [1, 0] rfl) (by omega) (by omega)
  have B2 : ∀  (n : Nat) (x1 : Int32) (z : fST), f_it (b_be_isBlocked_2 ) n (x1, z) = some (r, z') →  f_B p l e R s m args below meth c L Ar D b0 2 0 (f_E below args s L Ar D b0 0 (.inl (some (.int r))) z') 0 2 [(0, .ref (L 11 0)), (1, .int x1)] [] z := by
    intro  n
    induction n with
    | zero => intro x1 z hF; cases hF
    | succ n ih =>
    intro x1 z hF  H locs ls cells slots hW hS hl hc hs
    have hF := f_it_s hF
    have K2 : ∀ (x1 : Int32) (z : fST), f_it (b_be_isBlocked_2 ) n (x1, z) = some (r, z') →  f_B p l e R s m args below meth c L Ar D b0 2 0 (f_E below args s L Ar D b0 0 (.inl (some (.int r))) z') 0 2 [(0, .ref (L 11 0)), (1, .int x1)] [] z := fun x1 z hF => ih x1 z hF
    generalize f_it (b_be_isBlocked_2 ) n = k2 at hF K2
    unfold b_be_isBlocked_2 at hF
    dsimp only at hF
    refine lv_iload_n hx hb d_be_isBlocked_2 rfl (lv_at hl 1 rfl) ?_
    refine lv_aload_n hx hb d_be_isBlocked_3 rfl (lv_at hl 0 rfl) ?_
    refine hw_get (k := 11) (i := 0) (n := 1) (j := 1) (v := .int (f_gI z 11 0 1)) hx hb hts hown hK hW fl_be_18 rfl (by omega) rfl d_be_isBlocked_4 ?_
    refine lv_icmp_ge (tgt := 46) hx hb d_be_isBlocked_7 (by decide) (fun h1 => ?_) (fun h1 => ?_)
    · have hF := (if_pos h1).symm.trans hF
      refine lv_iconst (v := 0) hx hb d_be_isBlocked_46 (by decide) ?_
      exact hw_iret hx hb hr hlk (f_nZ (Or.inl rfl)) hW hS (by omega) (by omega) d_be_isBlocked_47 hF
    · have hF := (if_neg h1).symm.trans hF
      refine lv_aload_n hx hb d_be_isBlocked_10 rfl (lv_at hl 0 rfl) ?_
      refine hw_get (k := 11) (i := 0) (n := 1) (j := 0) (v := .ref (L 12 0)) hx hb hts hown hK hW fl_be_11 rfl (by omega) rfl d_be_isBlocked_11 ?_
      refine lv_iload_n hx hb d_be_isBlocked_14 rfl (lv_at hl 1 rfl) ?_
      obtain ⟨g2, hF⟩ := f_gd_some hF
      obtain ⟨g3, hF⟩ := f_gd_some hF
      have g3 := of_decide_eq_true g3
      refine hw_rald hx hb hK hW g2 d_be_isBlocked_15 ?_
      refine hw_get (k := 13) (i := f_gR z (f_ix x1)) (n := 16) (j := 4) (v := .int (f_gI z 13 (f_gR z (f_ix x1)) 4)) hx hb hts hown hK hW fl_be_40 rfl (by omega) rfl d_be_isBlocked_16 ?_
      refine lv_bipush (v := 104) hx hb d_be_isBlocked_19 (by decide) ?_
      refine lv_icmp_ne (tgt := 40) hx hb d_be_isBlocked_21 (by decide) (fun h4 => ?_) (fun h4 => ?_)
      · have hF := (if_neg h4).symm.trans hF
        exact B40 k2 K2 x1 z hF _ _ _ _ _ hW hS (lv_sub hl [0, 1] rfl) (by omega) (by omega)
      · have hF := (if_pos h4).symm.trans hF
        refine lv_aload_n hx hb d_be_isBlocked_24 rfl (lv_at hl 0 rfl) ?_
        refine hw_get (k := 11) (i := 0) (n := 1) (j := 0) (v := .ref (L 12 0)) hx hb hts hown hK hW fl_be_11 rfl (by omega) rfl d_be_isBlocked_25 ?_
        refine lv_iload_n hx hb d_be_isBlocked_28 rfl (lv_at hl 1 rfl) ?_
        obtain ⟨g5, hF⟩ := f_gd_some hF
        obtain ⟨g6, hF⟩ := f_gd_some hF
        have g6 := of_decide_eq_true g6
        refine hw_rald hx hb hK hW g5 d_be_isBlocked_29 ?_
        refine hw_get (k := 13) (i := f_gR z (f_ix x1)) (n := 16) (j := 6) (v := .int (f_gI z 13 (f_gR z (f_ix x1)) 6)) hx hb hts hown hK hW fl_be_43 rfl (by omega) rfl d_be_isBlocked_30 ?_
        refine lv_bipush (v := 10) hx hb d_be_isBlocked_33 (by decide) ?_
        refine lv_icmp_eq (tgt := 40) hx hb d_be_isBlocked_35 (by decide) (fun h7 => ?_) (fun h7 => ?_)
        · have hF := (if_pos h7).symm.trans hF
          exact B40 k2 K2 x1 z hF _ _ _ _ _ hW hS (lv_sub hl [0, 1] rfl) (by omega) (by omega)
        · have hF := (if_neg h7).symm.trans hF
          refine lv_iconst (v := 1) hx hb d_be_isBlocked_38 (by decide) ?_
          exact hw_iret hx hb hr hlk (f_nZ (Or.inr rfl)) hW hS (by omega) (by omega) d_be_isBlocked_39 hF
  intro H locs ls cells slots hW hS hl hc hs
  have hl : lv_has ls 2 [(0, .ref (L 11 0))] := hl
  unfold F_be_isBlocked at hF
  refine lv_iconst (v := 0) hx hb d_be_isBlocked_0 (by decide) ?_
  refine lv_istore_n (lv' := [(1, .int 0), (0, .ref (L 11 0))]) hx hb d_be_isBlocked_1 rfl hl (by decide) rfl (fun ls hl => ?_)
  exact B2 2000 0 z hF _ _ _ _ _ hW hS (lv_sub hl [1, 0] rfl) (by omega) (by omega)
set_option maxRecDepth 100000 in
set_option maxHeartbeats 4000000 in
theorem c_be_moveUp_ok (l : Launch) (hl0 : l.stackTraces = false) {L : Nat → Nat → Nat} {Ar : Nat → ClassId} {D : va_G} {b0 : Nat} (hLi : f_L L b0)   (z : fST) (r : Unit) (z' : fST) (hF : F_be_moveUp  z = some (r, z')) : f_C l y_be_moveUp wt 1 0 L Ar D b0 [.ref (L 11 0)] z (.inl none) z' := by
  refine f_ofW (cc := c_be_moveUp) (maxL := 2) (ret := (Option.none : Option Jvm.ClassFile.FieldType)) (by decide) w_be_moveUp (Nat.le_of_ble_eq_true rfl) ?_
  intro p e s m args below meth c R hRf hRl hRc hRs hx hb hr hlk hml hno hts hown hK hZ hsz
  have B2 : ∀  (n : Nat) (x1 : Int32) (z : fST), f_it (b_be_moveUp_2 ) n (x1, z) = some (r, z') →  f_B p l e R s m args below meth c L Ar D b0 2 0 (f_E below args s L Ar D b0 0 (.inl none) z') 0 2 [(0, .ref (L 11 0)), (1, .int x1)] [] z := by
    intro  n
    induction n with
    | zero => intro x1 z hF; cases hF
    | succ n ih =>
    intro x1 z hF  H locs ls cells slots hW hS hl hc hs
    have hF := f_it_s hF
    have K2 : ∀ (x1 : Int32) (z : fST), f_it (b_be_moveUp_2 ) n (x1, z) = some (r, z') →  f_B p l e R s m args below meth c L Ar D b0 2 0 (f_E below args s L Ar D b0 0 (.inl none) z') 0 2 [(0, .ref (L 11 0)), (1, .int x1)] [] z := fun x1 z hF => ih x1 z hF
    generalize f_it (b_be_moveUp_2 ) n = k2 at hF K2
    unfold b_be_moveUp_2 at hF
    dsimp only at hF
    refine lv_iload_n hx hb d_be_moveUp_2 rfl (lv_at hl 1 rfl) ?_
    refine lv_aload_n hx hb d_be_moveUp_3 rfl (lv_at hl 0 rfl) ?_
    refine hw_get (k := 11) (i := 0) (n := 1) (j := 1) (v := .int (f_gI z 11 0 1)) hx hb hts hown hK hW fl_be_18 rfl (by omega) rfl d_be_moveUp_4 ?_
    refine lv_icmp_ge (tgt := 31) hx hb d_be_moveUp_7 (by decide) (fun h1 => ?_) (fun h1 => ?_)
    · have hF := (if_pos h1).symm.trans hF
      exact hw_vret hx hb hr hlk hW hS (by omega) (by omega) d_be_moveUp_31 hF
    · have hF := (if_neg h1).symm.trans hF
      refine lv_aload_n hx hb d_be_moveUp_10 rfl (lv_at hl 0 rfl) ?_
      refine hw_get (k := 11) (i := 0) (n := 1) (j := 0) (v := .ref (L 12 0)) hx hb hts hown hK hW fl_be_11 rfl (by omega) rfl d_be_moveUp_11 ?_
      refine lv_iload_n hx hb d_be_moveUp_14 rfl (lv_at hl 1 rfl) ?_
      obtain ⟨g2, hF⟩ := f_gd_some hF
      obtain ⟨g3, hF⟩ := f_gd_some hF
      have g3 := of_decide_eq_true g3
      refine hw_rald hx hb hK hW g2 d_be_moveUp_15 ?_
      refine lv_dup hx hb d_be_moveUp_16 rfl ?_
      refine hw_get (k := 13) (i := f_gR z (f_ix x1)) (n := 16) (j := 4) (v := .int (f_gI z 13 (f_gR z (f_ix x1)) 4)) hx hb hts hown hK hW fl_be_40 rfl (by omega) rfl d_be_moveUp_17 ?_
      refine lv_iconst (v := 1) hx hb d_be_moveUp_20 (by decide) ?_
      refine lv_iadd hx hb d_be_moveUp_21 ?_
      refine hw_put (k := 13) (i := f_gR z (f_ix x1)) (n := 16) (j := 4) (v := (f_gI z 13 (f_gR z (f_ix x1)) 4) + 1) hx hb hts hown hK hLi hW hS fp_be_40 (vp_nar_int _) rfl rfl (by omega) d_be_moveUp_22 (fun H locs hW hS => ?_)
      refine lv_iinc (k := 1) (x := x1) (v := x1 + 1) (lv' := [(1, .int (x1 + 1)), (0, .ref (L 11 0))]) hx hb d_be_moveUp_25 hl rfl rfl (by decide) rfl (fun ls hl => ?_)
      refine lv_goto (tgt := 2) hx hb d_be_moveUp_28 (by decide) ?_
      exact K2 (x1 + 1) (f_pI z 13 (f_gR z (f_ix x1)) 4 ((f_gI z 13 (f_gR z (f_ix x1)) 4) + 1)) hF _ _ _ _ _ hW hS (lv_sub hl [1, 0] rfl) (by omega) (by omega)
  intro H locs ls cells slots hW hS hl hc hs
  have hl : lv_has ls 2 [(0, .ref (L 11 0))] := hl
  unfold F_be_moveUp at hF
  refine lv_iconst (v := 0) hx hb d_be_moveUp_0 (by decide) ?_
  refine lv_istore_n (lv' := [(1, .int 0), (0, .ref (L 11 0))]) hx hb d_be_moveUp_1 rfl hl (by decide) rfl (fun ls hl => ?_)
  exact B2 2000 0 z hF _ _ _ _ _ hW hS (lv_sub hl [1, 0] rfl) (by omega) (by omega)
set_option maxRecDepth 100000 in
set_option maxHeartbeats 4000000 in
theorem c_ca_kindOf_ok (l : Launch) (hl0 : l.stackTraces = false) {L : Nat → Nat → Nat} {Ar : Nat → ClassId} {D : va_G} {b0 : Nat} (hLi : f_L L b0) (a1 : Nat) (h_a1 : a1 < 16) (z : fST) (r : Int32) (z' : fST) (hF : F_ca_kindOf a1 z = some (r, z')) : f_C l y_ca_kindOf wt 2 0 L Ar D b0 [.ref (L 1 0), .ref (L 13 a1)] z (.inl (some (.int r))) z' := by
  refine f_ofW (cc := c_ca_kindOf) (maxL := 2) (ret := (some FieldType.int)) (by decide) w_ca_kindOf (Nat.le_of_ble_eq_true rfl) ?_
  intro p e s m args below meth c R hRf hRl hRc hRs hx hb hr hlk hml hno hts hown hK hZ hsz
  intro H locs ls cells slots hW hS hl hc hs
  have hl : lv_has ls 2 [(0, .ref (L 1 0)), (1, .ref (L 13 a1))] := hl
  unfold F_ca_kindOf at hF
  refine lv_aload_n hx hb d_ca_kindOf_0 rfl (lv_at hl 1 rfl) ?_
  refine hw_get (k := 13) (i := a1) (n := 16) (j := 0) (v := .ref (L 14 a1)) hx hb hts hown hK hW fl_ca_38 rfl (by omega) rfl d_ca_kindOf_1 ?_
  refine hw_get (k := 14) (i := a1) (n := 32) (j := 1) (v := .int (f_gI z 14 a1 1)) hx hb hts hown hK hW fl_ca_43 rfl (by omega) rfl d_ca_kindOf_4 ?_
  refine lv_if_ne (tgt := 14) hx hb d_ca_kindOf_7 (by decide) (fun h1 => ?_) (fun h1 => ?_)
  · have hF := (if_neg h1).symm.trans hF
    refine lv_aload_n hx hb d_ca_kindOf_14 rfl (lv_at hl 0 rfl) ?_
    refine lv_aload_n hx hb d_ca_kindOf_15 rfl (lv_at hl 1 rfl) ?_
    refine hw_get (k := 13) (i := a1) (n := 16) (j := 0) (v := .ref (L 14 a1)) hx hb hts hown hK hW fl_ca_38 rfl (by omega) rfl d_ca_kindOf_16 ?_
    refine hw_get (k := 14) (i := a1) (n := 32) (j := 0) (v := .ref (L 15 a1)) hx hb hts hown hK hW fl_ca_49 rfl (by omega) rfl d_ca_kindOf_19 ?_
    refine lv_iconst (v := 0) hx hb d_ca_kindOf_22 (by decide) ?_
    obtain ⟨g2, hF⟩ := f_gd_some hF
    refine hw_iald (k := 15) (i := a1) (n := 32) hx hb hK hW (by decide) rfl (by omega) rfl g2 d_ca_kindOf_23 ?_
    obtain ⟨v3, z3, hc3, hF⟩ := f_bd_some hF
    refine hw_VR (k := 1) (i := 0) (nk := 1) (As := [.int (f_gI z 15 a1 (f_ix 0))]) (rest := []) hx hb hml hown hts (c_ca_kindWith_ok l hl0 hLi (f_gI z 15 a1 (f_ix 0))  _ _ _ hc3) st_ca_52 (by decide) rfl (by omega) rfl rfl hK hZ hsz hS hW rfl hl.1 (Nat.le_of_ble_eq_true rfl) d_ca_kindOf_24 (by omega) (by omega) (by omega) (by omega) (fun H locs hW hS => ?_)
    exact hw_iret hx hb hr hlk (vp_nar_int _) hW hS (by omega) (by omega) d_ca_kindOf_27 hF
  · have hF := (if_pos h1).symm.trans hF
    refine lv_iconst (v := (-1)) hx hb d_ca_kindOf_10 (by decide) ?_
    refine lv_goto (tgt := 27) hx hb d_ca_kindOf_11 (by decide) ?_
    exact hw_iret hx hb hr hlk (vp_nar_int _) hW hS (by omega) (by omega) d_ca_kindOf_27 hF
set_option maxRecDepth 100000 in
set_option maxHeartbeats 4000000 in
theorem c_ro_isUniform_ok (l : Launch) (hl0 : l.stackTraces = false) {L : Nat → Nat → Nat} {Ar : Nat → ClassId} {D : va_G} {b0 : Nat} (hLi : f_L L b0) (a0 : Nat) (h_a0 : a0 < 32) (z : fST) (r : Int32) (z' : fST) (hF : F_ro_isUniform a0 z = some (r, z')) : f_C l y_ro_isUniform wt 1 0 L Ar D b0 [.ref (L 14 a0)] z (.inl (some (.int r))) z' := by
  refine f_ofW (cc := c_ro_isUniform) (maxL := 2) (ret := (some FieldType.boolean)) (by decide) w_ro_isUniform (Nat.le_of_ble_eq_true rfl) ?_
  intro p e s m args below meth c R hRf hRl hRc hRs hx hb hr hlk hml hno hts hown hK hZ hsz
  have B2 : ∀  (n : Nat) (x0 : Nat) (x1 : Int32) (z : fST), f_it (b_ro_isUniform_2 ) n (x0, x1, z) = some (r, z') → x0 < 32 → f_B p l e R s m args below meth c L Ar D b0 2 0 (f_E below args s L Ar D b0 0 (.inl (some (.int r))) z') 0 2 [(0, .ref (L 14 x0)), (1, .int x1)] [] z := by
    intro  n
    induction n with
    | zero => intro x0 x1 z hF; cases hF
    | succ n ih =>
    intro x0 x1 z hF h_x0 H locs ls cells slots hW hS hl hc hs
    have hF := f_it_s hF
    have K2 : ∀ (x0 : Nat) (x1 : Int32) (z : fST), f_it (b_ro_isUniform_2 ) n (x0, x1, z) = some (r, z') → x0 < 32 → f_B p l e R s m args below meth c L Ar D b0 2 0 (f_E below args s L Ar D b0 0 (.inl (some (.int r))) z') 0 2 [(0, .ref (L 14 x0)), (1, .int x1)] [] z := fun x0 x1 z hF => ih x0 x1 z hF
    generalize f_it (b_ro_isUniform_2 ) n = k2 at hF K2
    unfold b_ro_isUniform_2 at hF
    dsimp only at hF
    refine lv_iload_n hx hb d_ro_isUniform_2 rfl (lv_at hl 1 rfl) ?_
    refine lv_aload_n hx hb d_ro_isUniform_3 rfl (lv_at hl 0 rfl) ?_
    refine hw_get (k := 14) (i := x0) (n := 32) (j := 1) (v := .int (f_gI z 14 x0 1)) hx hb hts hown hK hW fl_ro_13 rfl (by omega) rfl d_ro_isUniform_4 ?_
    refine lv_icmp_ge (tgt := 33) hx hb d_ro_isUniform_7 (by decide) (fun h1 => ?_) (fun h1 => ?_)
    · have hF := (if_pos h1).symm.trans hF
      refine lv_iconst (v := 1) hx hb d_ro_isUniform_33 (by decide) ?_
      exact hw_iret hx hb hr hlk (f_nZ (Or.inr rfl)) hW hS (by omega) (by omega) d_ro_isUniform_34 hF
    · have hF := (if_neg h1).symm.trans hF
      refine lv_aload_n hx hb d_ro_isUniform_10 rfl (lv_at hl 0 rfl) ?_
      refine hw_get (k := 14) (i := x0) (n := 32) (j := 0) (v := .ref (L 15 x0)) hx hb hts hown hK hW fl_ro_7 rfl (by omega) rfl d_ro_isUniform_11 ?_
      refine lv_iload_n hx hb d_ro_isUniform_14 rfl (lv_at hl 1 rfl) ?_
      obtain ⟨g2, hF⟩ := f_gd_some hF
      refine hw_iald (k := 15) (i := x0) (n := 32) hx hb hK hW (by decide) rfl (by omega) rfl g2 d_ro_isUniform_15 ?_
      refine lv_aload_n hx hb d_ro_isUniform_16 rfl (lv_at hl 0 rfl) ?_
      refine hw_get (k := 14) (i := x0) (n := 32) (j := 0) (v := .ref (L 15 x0)) hx hb hts hown hK hW fl_ro_7 rfl (by omega) rfl d_ro_isUniform_17 ?_
      refine lv_iconst (v := 0) hx hb d_ro_isUniform_20 (by decide) ?_
      obtain ⟨g3, hF⟩ := f_gd_some hF
      refine hw_iald (k := 15) (i := x0) (n := 32) hx hb hK hW (by decide) rfl (by omega) rfl g3 d_ro_isUniform_21 ?_
      refine lv_icmp_eq (tgt := 27) hx hb d_ro_isUniform_22 (by decide) (fun h4 => ?_) (fun h4 => ?_)
      · have hF := (if_pos h4).symm.trans hF
        refine lv_iinc (k := 1) (x := x1) (v := x1 + 1) (lv' := [(1, .int (x1 + 1)), (0, .ref (L 14 x0))]) hx hb d_ro_isUniform_27 hl rfl rfl (by decide) rfl (fun ls hl => ?_)
        refine lv_goto (tgt := 2) hx hb d_ro_isUniform_30 (by decide) ?_
        exact K2 x0 (x1 + 1) z hF (by omega) _ _ _ _ _ hW hS (lv_sub hl [1, 0] rfl) (by omega) (by omega)
      · have hF := (if_neg h4).symm.trans hF
        refine lv_iconst (v := 0) hx hb d_ro_isUniform_25 (by decide) ?_
        exact hw_iret hx hb hr hlk (f_nZ (Or.inl rfl)) hW hS (by omega) (by omega) d_ro_isUniform_26 hF
  intro H locs ls cells slots hW hS hl hc hs
  have hl : lv_has ls 2 [(0, .ref (L 14 a0))] := hl
  unfold F_ro_isUniform at hF
  refine lv_iconst (v := 1) hx hb d_ro_isUniform_0 (by decide) ?_
  refine lv_istore_n (lv' := [(1, .int 1), (0, .ref (L 14 a0))]) hx hb d_ro_isUniform_1 rfl hl (by decide) rfl (fun ls hl => ?_)
  exact B2 2000 a0 1 z hF (by omega) _ _ _ _ _ hW hS (lv_sub hl [1, 0] rfl) (by omega) (by omega)
set_option maxRecDepth 100000 in
set_option maxHeartbeats 4000000 in
theorem c_ca_allowsWeight_ok (l : Launch) (hl0 : l.stackTraces = false) {L : Nat → Nat → Nat} {Ar : Nat → ClassId} {D : va_G} {b0 : Nat} (hLi : f_L L b0) (a1 : Int32) (a2 : Int32)  (z : fST) (r : Int32) (z' : fST) (hF : F_ca_allowsWeight a1 a2 z = some (r, z')) : f_C l y_ca_allowsWeight wt 2 0 L Ar D b0 [.ref (L 1 0), .int a1, .int a2] z (.inl (some (.int r))) z' := by
  refine f_ofW (cc := c_ca_allowsWeight) (maxL := 3) (ret := (some FieldType.boolean)) (by decide) w_ca_allowsWeight (Nat.le_of_ble_eq_true rfl) ?_
  intro p e s m args below meth c R hRf hRl hRc hRs hx hb hr hlk hml hno hts hown hK hZ hsz
  intro H locs ls cells slots hW hS hl hc hs
  have hl : lv_has ls 3 [(0, .ref (L 1 0)), (1, .int a1), (2, .int a2)] := hl
  unfold F_ca_allowsWeight at hF
  refine lv_iload_n hx hb d_ca_allowsWeight_0 rfl (lv_at hl 2 rfl) ?_
  refine lv_iconst (v := (-1)) hx hb d_ca_allowsWeight_1 (by decide) ?_
  refine lv_icmp_eq (tgt := 28) hx hb d_ca_allowsWeight_2 (by decide) (fun h1 => ?_) (fun h1 => ?_)
  · have hF := (if_pos h1).symm.trans hF
    refine lv_iconst (v := 0) hx hb d_ca_allowsWeight_28 (by decide) ?_
    exact hw_iret hx hb hr hlk (f_nZ (Or.inl rfl)) hW hS (by omega) (by omega) d_ca_allowsWeight_29 hF
  · have hF := (if_neg h1).symm.trans hF
    refine lv_iload_n hx hb d_ca_allowsWeight_5 rfl (lv_at hl 2 rfl) ?_
    refine lv_aload_n hx hb d_ca_allowsWeight_6 rfl (lv_at hl 0 rfl) ?_
    refine hw_get (k := 1) (i := 0) (n := 1) (j := 3) (v := .ref (L 5 0)) hx hb hts hown hK hW fl_ca_21 rfl (by omega) rfl d_ca_allowsWeight_7 ?_
    refine lv_iload_n hx hb d_ca_allowsWeight_10 rfl (lv_at hl 1 rfl) ?_
    obtain ⟨g2, hF⟩ := f_gd_some hF
    refine hw_iald (k := 5) (i := 0) (n := 1) hx hb hK hW (by decide) rfl (by omega) rfl g2 d_ca_allowsWeight_11 ?_
    refine lv_aload_n hx hb d_ca_allowsWeight_12 rfl (lv_at hl 0 rfl) ?_
    refine hw_get (k := 1) (i := 0) (n := 1) (j := 4) (v := .ref (L 6 0)) hx hb hts hown hK hW fl_ca_24 rfl (by omega) rfl d_ca_allowsWeight_13 ?_
    refine lv_iload_n hx hb d_ca_allowsWeight_16 rfl (lv_at hl 1 rfl) ?_
    obtain ⟨g3, hF⟩ := f_gd_some hF
    refine hw_iald (k := 6) (i := 0) (n := 1) hx hb hK hW (by decide) rfl (by omega) rfl g3 d_ca_allowsWeight_17 ?_
    obtain ⟨v4, z4, hc4, hF⟩ := f_bd_some hF
    refine hw_SN (As := [.int a2, .int (f_gI z 5 0 (f_ix a1)), .int (f_gI z 6 0 (f_ix a1))]) (rest := []) hx hb hml hown hts (c_b_isWithin_ok l hl0 hLi a2 (f_gI z 5 0 (f_ix a1)) (f_gI z 6 0 (f_ix a1))  _ _ _ hc4) st_ca_56 (hZ.2.1 _ (List.mem_of_getElem? (i := 530) (by decide +kernel)) rfl) hK hZ hsz hS hW rfl hl.1 (Nat.le_of_ble_eq_true rfl) d_ca_allowsWeight_18 (by omega) (by omega) (by omega) (by omega) (fun H locs hW hS => ?_)
    refine lv_if_eq (tgt := 28) hx hb d_ca_allowsWeight_21 (by decide) (fun h5 => ?_) (fun h5 => ?_)
    · have hF := (if_pos h5).symm.trans hF
      refine lv_iconst (v := 0) hx hb d_ca_allowsWeight_28 (by decide) ?_
      exact hw_iret hx hb hr hlk (f_nZ (Or.inl rfl)) hW hS (by omega) (by omega) d_ca_allowsWeight_29 hF
    · have hF := (if_neg h5).symm.trans hF
      refine lv_iconst (v := 1) hx hb d_ca_allowsWeight_24 (by decide) ?_
      refine lv_goto (tgt := 29) hx hb d_ca_allowsWeight_25 (by decide) ?_
      exact hw_iret hx hb hr hlk (f_nZ (Or.inr rfl)) hW hS (by omega) (by omega) d_ca_allowsWeight_29 hF
set_option maxRecDepth 100000 in
set_option maxHeartbeats 4000000 in
theorem c_ca_allowsWidths_ok (l : Launch) (hl0 : l.stackTraces = false) {L : Nat → Nat → Nat} {Ar : Nat → ClassId} {D : va_G} {b0 : Nat} (hLi : f_L L b0) (a1 : Int32) (a2 : Nat) (h_a2 : a2 < 32) (z : fST) (r : Int32) (z' : fST) (hF : F_ca_allowsWidths a1 a2 z = some (r, z')) : f_C l y_ca_allowsWidths wt 2 0 L Ar D b0 [.ref (L 1 0), .int a1, .ref (L 14 a2)] z (.inl (some (.int r))) z' := by
  refine f_ofW (cc := c_ca_allowsWidths) (maxL := 6) (ret := (some FieldType.boolean)) (by decide) w_ca_allowsWidths (Nat.le_of_ble_eq_true rfl) ?_
  intro p e s m args below meth c R hRf hRl hRc hRs hx hb hr hlk hml hno hts hown hK hZ hsz
  have B22 : ∀  (n : Nat) (x2 : Nat) (x3 : Int32) (x4 : Int32) (x5 : Int32) (z : fST), f_it (b_ca_allowsWidths_22 ) n (x2, x3, x4, x5, z) = some (r, z') → x2 < 32 → f_B p l e R s m args below meth c L Ar D b0 6 0 (f_E below args s L Ar D b0 0 (.inl (some (.int r))) z') 0 22 [(0, .ref (L 1 0)), (2, .ref (L 14 x2)), (3, .int x3), (4, .int x4), (5, .int x5)] [] z := by
    intro  n
    induction n with
    | zero => intro x2 x3 x4 x5 z hF; cases hF
    | succ n ih =>
    intro x2 x3 x4 x5 z hF h_x2 H locs ls cells slots hW hS hl hc hs
    have hF := f_it_s hF
    have K22 : ∀ (x2 : Nat) (x3 : Int32) (x4 : Int32) (x5 : Int32) (z : fST), f_it (b_ca_allowsWidths_22 ) n (x2, x3, x4, x5, z) = some (r, z') → x2 < 32 → f_B p l e R s m args below meth c L Ar D b0 6 0 (f_E below args s L Ar D b0 0 (.inl (some (.int r))) z') 0 22 [(0, .ref (L 1 0)), (2, .ref (L 14 x2)), (3, .int x3), (4, .int x4), (5, .int x5)] [] z := fun x2 x3 x4 x5 z hF => ih x2 x3 x4 x5 z hF
    generalize f_it (b_ca_allowsWidths_22 ) n = k22 at hF K22
    unfold b_ca_allowsWidths_22 at hF
    dsimp only at hF
    refine lv_iload hx hb d_ca_allowsWidths_22 (lv_at hl 4 rfl) ?_
    refine lv_bipush (v := 8) hx hb d_ca_allowsWidths_24 (by decide) ?_
    refine lv_icmp_ge (tgt := 60) hx hb d_ca_allowsWidths_26 (by decide) (fun h4 => ?_) (fun h4 => ?_)
    · have hF := (if_pos h4).symm.trans hF
      refine lv_iload hx hb d_ca_allowsWidths_60 (lv_at hl 3 rfl) ?_
      refine lv_aload_n hx hb d_ca_allowsWidths_62 rfl (lv_at hl 0 rfl) ?_
      refine hw_get (k := 1) (i := 0) (n := 1) (j := 7) (v := .ref (L 10 0)) hx hb hts hown hK hW fl_ca_35 rfl (by omega) rfl d_ca_allowsWidths_63 ?_
      refine lv_iload_n hx hb d_ca_allowsWidths_66 rfl (lv_at hl 2 rfl) ?_
      obtain ⟨g5, hF⟩ := f_gd_some hF
      refine hw_iald (k := 10) (i := 0) (n := 1) hx hb hK hW (by decide) rfl (by omega) rfl g5 d_ca_allowsWidths_67 ?_
      refine lv_icmp_gt (tgt := 75) hx hb d_ca_allowsWidths_68 (by decide) (fun h6 => ?_) (fun h6 => ?_)
      · have hF := (if_pos h6).symm.trans hF
        refine lv_iconst (v := 0) hx hb d_ca_allowsWidths_75 (by decide) ?_
        exact hw_iret hx hb hr hlk (f_nZ (Or.inl rfl)) hW hS (by omega) (by omega) d_ca_allowsWidths_76 hF
      · have hF := (if_neg h6).symm.trans hF
        refine lv_iconst (v := 1) hx hb d_ca_allowsWidths_71 (by decide) ?_
        refine lv_goto (tgt := 76) hx hb d_ca_allowsWidths_72 (by decide) ?_
        exact hw_iret hx hb hr hlk (f_nZ (Or.inr rfl)) hW hS (by omega) (by omega) d_ca_allowsWidths_76 hF
    · have hF := (if_neg h4).symm.trans hF
      refine lv_iload hx hb d_ca_allowsWidths_29 (lv_at hl 3 rfl) ?_
      refine lv_aload_n hx hb d_ca_allowsWidths_31 rfl (lv_at hl 1 rfl) ?_
      refine hw_get (k := 14) (i := x2) (n := 32) (j := 0) (v := .ref (L 15 x2)) hx hb hts hown hK hW fl_ca_49 rfl (by omega) rfl d_ca_allowsWidths_32 ?_
      refine lv_iload hx hb d_ca_allowsWidths_35 (lv_at hl 4 rfl) ?_
      obtain ⟨g7, hF⟩ := f_gd_some hF
      refine hw_iald (k := 15) (i := x2) (n := 32) hx hb hK hW (by decide) rfl (by omega) rfl g7 d_ca_allowsWidths_37 ?_
      refine lv_aload_n hx hb d_ca_allowsWidths_38 rfl (lv_at hl 0 rfl) ?_
      refine hw_get (k := 1) (i := 0) (n := 1) (j := 6) (v := .ref (L 8 0)) hx hb hts hown hK hW fl_ca_32 rfl (by omega) rfl d_ca_allowsWidths_39 ?_
      refine lv_iload_n hx hb d_ca_allowsWidths_42 rfl (lv_at hl 2 rfl) ?_
      obtain ⟨g8, hF⟩ := f_gd_some hF
      have g8_lt := f_ib_lt g8
      refine hw_wald hx hb hK hW g8 d_ca_allowsWidths_43 ?_
      refine lv_iload hx hb d_ca_allowsWidths_44 (lv_at hl 4 rfl) ?_
      obtain ⟨g9, hF⟩ := f_gd_some hF
      refine hw_iald (k := 9) (i := f_ix x3) (n := 8) hx hb hK hW (by decide) rfl (by omega) rfl g9 d_ca_allowsWidths_46 ?_
      refine lv_isub hx hb d_ca_allowsWidths_47 ?_
      refine hw_abs hx hb hml hl.1 hown hts st_ca_64 (by omega) (by simp only [List.map, List.sum_cons, List.sum_nil, Value.category]; omega) (by omega) (by omega) d_ca_allowsWidths_48 ?_
      refine lv_iadd hx hb d_ca_allowsWidths_51 ?_
      refine lv_istore (lv' := [(4, .int (x4 + (f_ab ((f_gI z 15 x2 (f_ix x5)) - (f_gI z 9 (f_ix x3) (f_ix x5)))))), (0, .ref (L 1 0)), (2, .ref (L 14 x2)), (3, .int x3), (5, .int x5)]) hx hb d_ca_allowsWidths_52 hl (by decide) rfl (fun ls hl => ?_)
      refine lv_iinc (k := 4) (x := x5) (v := x5 + 1) (lv' := [(5, .int (x5 + 1)), (4, .int (x4 + (f_ab ((f_gI z 15 x2 (f_ix x5)) - (f_gI z 9 (f_ix x3) (f_ix x5)))))), (0, .ref (L 1 0)), (2, .ref (L 14 x2)), (3, .int x3)]) hx hb d_ca_allowsWidths_54 hl rfl rfl (by decide) rfl (fun ls hl => ?_)
      refine lv_goto (tgt := 22) hx hb d_ca_allowsWidths_57 (by decide) ?_
      exact K22 x2 x3 (x4 + (f_ab ((f_gI z 15 x2 (f_ix x5)) - (f_gI z 9 (f_ix x3) (f_ix x5))))) (x5 + 1) z hF (by omega) _ _ _ _ _ hW hS (lv_sub hl [2, 3, 4, 1, 0] rfl) (by omega) (by omega)
  intro H locs ls cells slots hW hS hl hc hs
  have hl : lv_has ls 6 [(0, .ref (L 1 0)), (1, .int a1), (2, .ref (L 14 a2))] := hl
  unfold F_ca_allowsWidths at hF
  refine lv_aload_n hx hb d_ca_allowsWidths_0 rfl (lv_at hl 2 rfl) ?_
  obtain ⟨v1, z1, hc1, hF⟩ := f_bd_some hF
  refine hw_VR (k := 14) (i := a2) (nk := 32) (As := []) (rest := []) hx hb hml hown hts (c_ro_isFull_ok l hl0 hLi a2 (by omega) _ _ _ hc1) st_ca_60 (by decide) rfl (by omega) rfl rfl hK hZ hsz hS hW rfl hl.1 (Nat.le_of_ble_eq_true rfl) d_ca_allowsWidths_1 (by omega) (by omega) (by omega) (by omega) (fun H locs hW hS => ?_)
  refine lv_if_ne (tgt := 9) hx hb d_ca_allowsWidths_4 (by decide) (fun h2 => ?_) (fun h2 => ?_)
  · have hF := (if_neg h2).symm.trans hF
    refine lv_aload_n hx hb d_ca_allowsWidths_9 rfl (lv_at hl 0 rfl) ?_
    refine hw_get (k := 1) (i := 0) (n := 1) (j := 5) (v := .ref (L 7 0)) hx hb hts hown hK hW fl_ca_27 rfl (by omega) rfl d_ca_allowsWidths_10 ?_
    refine lv_iload_n hx hb d_ca_allowsWidths_13 rfl (lv_at hl 1 rfl) ?_
    obtain ⟨g3, hF⟩ := f_gd_some hF
    refine hw_iald (k := 7) (i := 0) (n := 1) hx hb hK hW (by decide) rfl (by omega) rfl g3 d_ca_allowsWidths_14 ?_
    refine lv_istore_n (lv' := [(3, .int (f_gI z1 7 0 (f_ix a1))), (0, .ref (L 1 0)), (1, .int a1), (2, .ref (L 14 a2))]) hx hb d_ca_allowsWidths_15 rfl hl (by decide) rfl (fun ls hl => ?_)
    refine lv_iconst (v := 0) hx hb d_ca_allowsWidths_16 (by decide) ?_
    refine lv_istore (lv' := [(4, .int 0), (3, .int (f_gI z1 7 0 (f_ix a1))), (0, .ref (L 1 0)), (1, .int a1), (2, .ref (L 14 a2))]) hx hb d_ca_allowsWidths_17 hl (by decide) rfl (fun ls hl => ?_)
    refine lv_iconst (v := 0) hx hb d_ca_allowsWidths_19 (by decide) ?_
    refine lv_istore (lv' := [(5, .int 0), (4, .int 0), (3, .int (f_gI z1 7 0 (f_ix a1))), (0, .ref (L 1 0)), (1, .int a1), (2, .ref (L 14 a2))]) hx hb d_ca_allowsWidths_20 hl (by decide) rfl (fun ls hl => ?_)
    exact B22 2000 a2 (f_gI z1 7 0 (f_ix a1)) 0 0 z1 hF (by omega) _ _ _ _ _ hW hS (lv_sub hl [3, 5, 2, 1, 0] rfl) (by omega) (by omega)
  · have hF := (if_pos h2).symm.trans hF
    refine lv_iconst (v := 0) hx hb d_ca_allowsWidths_7 (by decide) ?_
    exact hw_iret hx hb hr hlk (f_nZ (Or.inl rfl)) hW hS (by omega) (by omega) d_ca_allowsWidths_8 hF
set_option maxRecDepth 100000 in
set_option maxHeartbeats 4000000 in
theorem c_b_judgementByReadings_ok (l : Launch) (hl0 : l.stackTraces = false) {L : Nat → Nat → Nat} {Ar : Nat → ClassId} {D : va_G} {b0 : Nat} (hLi : f_L L b0) (a1 : Nat) (a2 : Int32) (h_a1 : a1 < 16) (z : fST) (r : Int32) (z' : fST) (hF : F_b_judgementByReadings a1 a2 z = some (r, z')) : f_C l y_b_judgementByReadings wt 3 0 L Ar D b0 [.ref (L 0 0), .ref (L 13 a1), .int a2] z (.inl (some (.int r))) z' := by
  refine f_ofW (cc := c_b_judgementByReadings) (maxL := 3) (ret := (some FieldType.int)) (by decide) w_b_judgementByReadings (Nat.le_of_ble_eq_true rfl) ?_
  intro p e s m args below meth c R hRf hRl hRc hRs hx hb hr hlk hml hno hts hown hK hZ hsz
  intro H locs ls cells slots hW hS hl hc hs
  have hl : lv_has ls 3 [(0, .ref (L 0 0)), (1, .ref (L 13 a1)), (2, .int a2)] := hl
  unfold F_b_judgementByReadings at hF
  refine lv_aload_n hx hb d_b_judgementByReadings_0 rfl (lv_at hl 1 rfl) ?_
  refine hw_get (k := 13) (i := a1) (n := 16) (j := 0) (v := .ref (L 14 a1)) hx hb hts hown hK hW fl_b_97 rfl (by omega) rfl d_b_judgementByReadings_1 ?_
  refine hw_get (k := 14) (i := a1) (n := 32) (j := 1) (v := .int (f_gI z 14 a1 1)) hx hb hts hown hK hW fl_b_231 rfl (by omega) rfl d_b_judgementByReadings_4 ?_
  refine lv_if_ne (tgt := 12) hx hb d_b_judgementByReadings_7 (by decide) (fun h1 => ?_) (fun h1 => ?_)
  · have hF := (if_neg h1).symm.trans hF
    refine lv_aload_n hx hb d_b_judgementByReadings_12 rfl (lv_at hl 1 rfl) ?_
    refine hw_get (k := 13) (i := a1) (n := 16) (j := 0) (v := .ref (L 14 a1)) hx hb hts hown hK hW fl_b_97 rfl (by omega) rfl d_b_judgementByReadings_13 ?_
    obtain ⟨v2, z2, hc2, hF⟩ := f_bd_some hF
    refine hw_VR (k := 14) (i := a1) (nk := 32) (As := []) (rest := []) hx hb hml hown hts (c_ro_isUniform_ok l hl0 hLi a1 (by omega) _ _ _ hc2) st_b_285 (by decide) rfl (by omega) rfl rfl hK hZ hsz hS hW rfl hl.1 (Nat.le_of_ble_eq_true rfl) d_b_judgementByReadings_16 (by omega) (by omega) (by omega) (by omega) (fun H locs hW hS => ?_)
    refine lv_if_ne (tgt := 24) hx hb d_b_judgementByReadings_19 (by decide) (fun h3 => ?_) (fun h3 => ?_)
    · have hF := (if_neg h3).symm.trans hF
      refine lv_iload_n hx hb d_b_judgementByReadings_24 rfl (lv_at hl 2 rfl) ?_
      refine lv_iconst (v := (-1)) hx hb d_b_judgementByReadings_25 (by decide) ?_
      refine lv_icmp_ne (tgt := 31) hx hb d_b_judgementByReadings_26 (by decide) (fun h4 => ?_) (fun h4 => ?_)
      · have hF := (if_neg h4).symm.trans hF
        refine lv_aload_n hx hb d_b_judgementByReadings_31 rfl (lv_at hl 0 rfl) ?_
        refine hw_get (k := 0) (i := 0) (n := 1) (j := 0) (v := .ref (L 1 0)) hx hb hts hown hK hW fl_b_12 rfl (by omega) rfl d_b_judgementByReadings_32 ?_
        refine lv_iload_n hx hb d_b_judgementByReadings_35 rfl (lv_at hl 2 rfl) ?_
        refine lv_aload_n hx hb d_b_judgementByReadings_36 rfl (lv_at hl 1 rfl) ?_
        refine hw_get (k := 13) (i := a1) (n := 16) (j := 5) (v := .int (f_gI z2 13 a1 5)) hx hb hts hown hK hW fl_b_112 rfl (by omega) rfl d_b_judgementByReadings_37 ?_
        obtain ⟨v5, z5, hc5, hF⟩ := f_bd_some hF
        refine hw_VR (k := 1) (i := 0) (nk := 1) (As := [.int a2, .int (f_gI z2 13 a1 5)]) (rest := []) hx hb hml hown hts (c_ca_allowsWeight_ok l hl0 hLi a2 (f_gI z2 13 a1 5)  _ _ _ hc5) st_b_288 (by decide) rfl (by omega) rfl rfl hK hZ hsz hS hW rfl hl.1 (Nat.le_of_ble_eq_true rfl) d_b_judgementByReadings_40 (by omega) (by omega) (by omega) (by omega) (fun H locs hW hS => ?_)
        refine lv_if_ne (tgt := 48) hx hb d_b_judgementByReadings_43 (by decide) (fun h6 => ?_) (fun h6 => ?_)
        · have hF := (if_neg h6).symm.trans hF
          refine lv_aload_n hx hb d_b_judgementByReadings_48 rfl (lv_at hl 0 rfl) ?_
          refine hw_get (k := 0) (i := 0) (n := 1) (j := 0) (v := .ref (L 1 0)) hx hb hts hown hK hW fl_b_12 rfl (by omega) rfl d_b_judgementByReadings_49 ?_
          refine lv_iload_n hx hb d_b_judgementByReadings_52 rfl (lv_at hl 2 rfl) ?_
          refine lv_aload_n hx hb d_b_judgementByReadings_53 rfl (lv_at hl 1 rfl) ?_
          refine hw_get (k := 13) (i := a1) (n := 16) (j := 1) (v := .ref (L 14 (a1 + 16))) hx hb hts hown hK hW fl_b_109 rfl (by omega) rfl d_b_judgementByReadings_54 ?_
          obtain ⟨v7, z7, hc7, hF⟩ := f_bd_some hF
          refine hw_VR (k := 1) (i := 0) (nk := 1) (As := [.int a2, .ref (L 14 (a1 + 16))]) (rest := []) hx hb hml hown hts (c_ca_allowsWidths_ok l hl0 hLi a2 (a1 + 16) (by omega) _ _ _ hc7) st_b_291 (by decide) rfl (by omega) rfl rfl hK hZ hsz hS hW rfl hl.1 (Nat.le_of_ble_eq_true rfl) d_b_judgementByReadings_57 (by omega) (by omega) (by omega) (by omega) (fun H locs hW hS => ?_)
          refine lv_if_ne (tgt := 65) hx hb d_b_judgementByReadings_60 (by decide) (fun h8 => ?_) (fun h8 => ?_)
          · have hF := (if_neg h8).symm.trans hF
            refine lv_bipush (v := 10) hx hb d_b_judgementByReadings_65 (by decide) ?_
            exact hw_iret hx hb hr hlk (vp_nar_int _) hW hS (by omega) (by omega) d_b_judgementByReadings_67 hF
          · have hF := (if_pos h8).symm.trans hF
            refine lv_iconst (v := 5) hx hb d_b_judgementByReadings_63 (by decide) ?_
            exact hw_iret hx hb hr hlk (vp_nar_int _) hW hS (by omega) (by omega) d_b_judgementByReadings_64 hF
        · have hF := (if_pos h6).symm.trans hF
          refine lv_iconst (v := 4) hx hb d_b_judgementByReadings_46 (by decide) ?_
          exact hw_iret hx hb hr hlk (vp_nar_int _) hW hS (by omega) (by omega) d_b_judgementByReadings_47 hF
      · have hF := (if_pos h4).symm.trans hF
        refine lv_iconst (v := 3) hx hb d_b_judgementByReadings_29 (by decide) ?_
        exact hw_iret hx hb hr hlk (vp_nar_int _) hW hS (by omega) (by omega) d_b_judgementByReadings_30 hF
    · have hF := (if_pos h3).symm.trans hF
      refine lv_iconst (v := 2) hx hb d_b_judgementByReadings_22 (by decide) ?_
      exact hw_iret hx hb hr hlk (vp_nar_int _) hW hS (by omega) (by omega) d_b_judgementByReadings_23 hF
  · have hF := (if_pos h1).symm.trans hF
    refine lv_iconst (v := 1) hx hb d_b_judgementByReadings_10 (by decide) ?_
    exact hw_iret hx hb hr hlk (vp_nar_int _) hW hS (by omega) (by omega) d_b_judgementByReadings_11 hF
set_option maxRecDepth 100000 in
set_option maxHeartbeats 4000000 in
theorem c_b_acceptedFor_ok (l : Launch) (hl0 : l.stackTraces = false) {L : Nat → Nat → Nat} {Ar : Nat → ClassId} {D : va_G} {b0 : Nat} (hLi : f_L L b0) (a1 : Int32)  (z : fST) (r : Int32) (z' : fST) (hF : F_b_acceptedFor a1 z = some (r, z')) : f_C l y_b_acceptedFor wt 1 0 L Ar D b0 [.ref (L 0 0), .int a1] z (.inl (some (.int r))) z' := by
  refine f_ofW (cc := c_b_acceptedFor) (maxL := 5) (ret := (some FieldType.int)) (by decide) w_b_acceptedFor (Nat.le_of_ble_eq_true rfl) ?_
  intro p e s m args below meth c R hRf hRl hRc hRs hx hb hr hlk hml hno hts hown hK hZ hsz
  have B52 : ∀ (k4 : Int32 × Int32 × Int32 × fST → Option (Int32 × fST)) (K4 : ∀ (x1 : Int32) (x2 : Int32) (x3 : Int32) (z : fST), k4 (x1, x2, x3, z) = some (r, z') →  f_B p l e R s m args below meth c L Ar D b0 5 0 (f_E below args s L Ar D b0 0 (.inl (some (.int r))) z') 0 4 [(0, .ref (L 0 0)), (1, .int x1), (2, .int x2), (3, .int x3)] [] z) (x1 : Int32) (x2 : Int32) (x3 : Int32) (z : fST), b_b_acceptedFor_52 k4 x1 x2 x3 z = some (r, z') →  f_B p l e R s m args below meth c L Ar D b0 5 0 (f_E below args s L Ar D b0 0 (.inl (some (.int r))) z') 0 52 [(0, .ref (L 0 0)), (1, .int x1), (2, .int x2), (3, .int x3)] [] z := by
    intro k4 K4 x1 x2 x3 z hF  H locs ls cells slots hW hS hl hc hs
    unfold b_b_acceptedFor_52 at hF
    refine lv_iinc (k := 3) (x := x3) (v := x3 + 1) (lv' := [(3, .int (x3 + 1)), (0, .ref (L 0 0)), (1, .int x1), (2, .int x2)]) hx hb d_b_acceptedFor_52 hl rfl rfl (by decide) rfl (fun ls hl => ?_)
    refine lv_goto (tgt := 4) hx hb d_b_acceptedFor_55 (by decide) ?_
    exact K4 x1 x2 (x3 + 1) z hF _ _ _ _ _ hW hS (lv_sub hl [1, 2, 3, 0] rfl) (by omega) (by omega)
  have B4 : ∀  (n : Nat) (x1 : Int32) (x2 : Int32) (x3 : Int32) (z : fST), f_it (b_b_acceptedFor_4 ) n (x1, x2, x3, z) = some (r, z') →  f_B p l e R s m args below meth c L Ar D b0 5 0 (f_E below args s L Ar D b0 0 (.inl (some (.int r))) z') 0 4 [(0, .ref (L 0 0)), (1, .int x1), (2, .int x2), (3, .int x3)] [] z := by
    intro  n
    induction n with
    | zero => intro x1 x2 x3 z hF; cases hF
    | succ n ih =>
    intro x1 x2 x3 z hF  H locs ls cells slots hW hS hl hc hs
    have hF := f_it_s hF
    have K4 : ∀ (x1 : Int32) (x2 : Int32) (x3 : Int32) (z : fST), f_it (b_b_acceptedFor_4 ) n (x1, x2, x3, z) = some (r, z') →  f_B p l e R s m args below meth c L Ar D b0 5 0 (f_E below args s L Ar D b0 0 (.inl (some (.int r))) z') 0 4 [(0, .ref (L 0 0)), (1, .int x1), (2, .int x2), (3, .int x3)] [] z := fun x1 x2 x3 z hF => ih x1 x2 x3 z hF
    generalize f_it (b_b_acceptedFor_4 ) n = k4 at hF K4
    unfold b_b_acceptedFor_4 at hF
    dsimp only at hF
    refine lv_iload_n hx hb d_b_acceptedFor_4 rfl (lv_at hl 3 rfl) ?_
    refine lv_aload_n hx hb d_b_acceptedFor_5 rfl (lv_at hl 0 rfl) ?_
    refine hw_get (k := 0) (i := 0) (n := 1) (j := 1) (v := .ref (L 11 0)) hx hb hts hown hK hW fl_b_19 rfl (by omega) rfl d_b_acceptedFor_6 ?_
    refine hw_get (k := 11) (i := 0) (n := 1) (j := 1) (v := .int (f_gI z 11 0 1)) hx hb hts hown hK hW fl_b_127 rfl (by omega) rfl d_b_acceptedFor_9 ?_
    refine lv_icmp_ge (tgt := 58) hx hb d_b_acceptedFor_12 (by decide) (fun h1 => ?_) (fun h1 => ?_)
    · have hF := (if_pos h1).symm.trans hF
      refine lv_iload_n hx hb d_b_acceptedFor_58 rfl (lv_at hl 2 rfl) ?_
      exact hw_iret hx hb hr hlk (vp_nar_int _) hW hS (by omega) (by omega) d_b_acceptedFor_59 hF
    · have hF := (if_neg h1).symm.trans hF
      refine lv_aload_n hx hb d_b_acceptedFor_15 rfl (lv_at hl 0 rfl) ?_
      refine hw_get (k := 0) (i := 0) (n := 1) (j := 1) (v := .ref (L 11 0)) hx hb hts hown hK hW fl_b_19 rfl (by omega) rfl d_b_acceptedFor_16 ?_
      refine hw_get (k := 11) (i := 0) (n := 1) (j := 0) (v := .ref (L 12 0)) hx hb hts hown hK hW fl_b_232 rfl (by omega) rfl d_b_acceptedFor_19 ?_
      refine lv_iload_n hx hb d_b_acceptedFor_22 rfl (lv_at hl 3 rfl) ?_
      obtain ⟨g2, hF⟩ := f_gd_some hF
      obtain ⟨g3, hF⟩ := f_gd_some hF
      have g3 := of_decide_eq_true g3
      refine hw_rald hx hb hK hW g2 d_b_acceptedFor_23 ?_
      refine hw_get (k := 13) (i := f_gR z (f_ix x3)) (n := 16) (j := 7) (v := .int (f_gI z 13 (f_gR z (f_ix x3)) 7)) hx hb hts hown hK hW fl_b_225 rfl (by omega) rfl d_b_acceptedFor_24 ?_
      refine lv_istore (lv' := [(4, .int (f_gI z 13 (f_gR z (f_ix x3)) 7)), (0, .ref (L 0 0)), (1, .int x1), (2, .int x2), (3, .int x3)]) hx hb d_b_acceptedFor_27 hl (by decide) rfl (fun ls hl => ?_)
      refine lv_iload hx hb d_b_acceptedFor_29 (lv_at hl 0 rfl) ?_
      refine lv_iconst (v := (-1)) hx hb d_b_acceptedFor_31 (by decide) ?_
      refine lv_icmp_eq (tgt := 52) hx hb d_b_acceptedFor_32 (by decide) (fun h4 => ?_) (fun h4 => ?_)
      · have hF := (if_pos h4).symm.trans hF
        exact B52 k4 K4 x1 x2 x3 z hF _ _ _ _ _ hW hS (lv_sub hl [1, 2, 3, 4] rfl) (by omega) (by omega)
      · have hF := (if_neg h4).symm.trans hF
        refine lv_aload_n hx hb d_b_acceptedFor_35 rfl (lv_at hl 1 rfl) ?_
        refine hw_get (k := 0) (i := 0) (n := 1) (j := 0) (v := .ref (L 1 0)) hx hb hts hown hK hW fl_b_12 rfl (by omega) rfl d_b_acceptedFor_36 ?_
        refine hw_get (k := 1) (i := 0) (n := 1) (j := 2) (v := .ref (L 4 0)) hx hb hts hown hK hW fl_b_295 rfl (by omega) rfl d_b_acceptedFor_39 ?_
        refine lv_iload hx hb d_b_acceptedFor_42 (lv_at hl 0 rfl) ?_
        obtain ⟨g5, hF⟩ := f_gd_some hF
        refine hw_iald (k := 4) (i := 0) (n := 1) hx hb hK hW (by decide) rfl (by omega) rfl g5 d_b_acceptedFor_44 ?_
        refine lv_iload_n hx hb d_b_acceptedFor_45 rfl (lv_at hl 2 rfl) ?_
        refine lv_icmp_ne (tgt := 52) hx hb d_b_acceptedFor_46 (by decide) (fun h6 => ?_) (fun h6 => ?_)
        · have hF := (if_neg h6).symm.trans hF
          exact B52 k4 K4 x1 x2 x3 z hF _ _ _ _ _ hW hS (lv_sub hl [1, 2, 3, 4] rfl) (by omega) (by omega)
        · have hF := (if_pos h6).symm.trans hF
          refine lv_iinc (k := 3) (x := x2) (v := x2 + 1) (lv' := [(2, .int (x2 + 1)), (4, .int (f_gI z 13 (f_gR z (f_ix x3)) 7)), (0, .ref (L 0 0)), (1, .int x1), (3, .int x3)]) hx hb d_b_acceptedFor_49 hl rfl rfl (by decide) rfl (fun ls hl => ?_)
          exact B52 k4 K4 x1 (x2 + 1) x3 z hF _ _ _ _ _ hW hS (lv_sub hl [2, 3, 0, 4] rfl) (by omega) (by omega)
  intro H locs ls cells slots hW hS hl hc hs
  have hl : lv_has ls 5 [(0, .ref (L 0 0)), (1, .int a1)] := hl
  unfold F_b_acceptedFor at hF
  refine lv_iconst (v := 0) hx hb d_b_acceptedFor_0 (by decide) ?_
  refine lv_istore_n (lv' := [(2, .int 0), (0, .ref (L 0 0)), (1, .int a1)]) hx hb d_b_acceptedFor_1 rfl hl (by decide) rfl (fun ls hl => ?_)
  refine lv_iconst (v := 0) hx hb d_b_acceptedFor_2 (by decide) ?_
  refine lv_istore_n (lv' := [(3, .int 0), (2, .int 0), (0, .ref (L 0 0)), (1, .int a1)]) hx hb d_b_acceptedFor_3 rfl hl (by decide) rfl (fun ls hl => ?_)
  exact B4 2000 a1 0 0 z hF _ _ _ _ _ hW hS (lv_sub hl [2, 3, 1, 0] rfl) (by omega) (by omega)
end
section
/-! contracts: the method does what its pure function says -/
set_option maxRecDepth 100000 in
set_option maxHeartbeats 4000000 in
theorem c_m_thrown_ok (l : Launch) (hl0 : l.stackTraces = false) {L : Nat → Nat → Nat} {Ar : Nat → ClassId} {D : va_G} {b0 : Nat} (hLi : f_L L b0)   (z : fST) (r : Int32) (z' : fST) (hF : F_m_thrown  z = some (r, z')) : f_C l y_m_thrown wt 1 0 L Ar D b0 [.ref (L 30 0)] z (.inl (some (.int r))) z' := by
  refine f_ofW (cc := c_m_thrown) (maxL := 1) (ret := (some FieldType.int)) (by decide) w_m_thrown (Nat.le_of_ble_eq_true rfl) ?_
  intro p e s m args below meth c R hRf hRl hRc hRs hx hb hr hlk hml hno hts hown hK hZ hsz
  intro H locs ls cells slots hW hS hl hc hs
  have hl : lv_has ls 1 [(0, .ref (L 30 0))] := hl
  unfold F_m_thrown at hF
  refine lv_aload_n hx hb d_m_thrown_0 rfl (lv_at hl 0 rfl) ?_
  refine hw_get (k := 30) (i := 0) (n := 1) (j := 25) (v := .int (f_gI z 30 0 25)) hx hb hts hown hK hW fl_m_44 rfl (by omega) rfl d_m_thrown_1 ?_
  exact hw_iret hx hb hr hlk (vp_nar_int _) hW hS (by omega) (by omega) d_m_thrown_4 hF
set_option maxRecDepth 100000 in
set_option maxHeartbeats 4000000 in
theorem c_m_fails_ok (l : Launch) (hl0 : l.stackTraces = false) {L : Nat → Nat → Nat} {Ar : Nat → ClassId} {D : va_G} {b0 : Nat} (hLi : f_L L b0) (a1 : Int32) (a2 : Int32)  (z : fST) (r : Int32) (z' : fST) (hF : F_m_fails a1 a2 z = some (r, z')) : f_C l y_m_fails wt 1 0 L Ar D b0 [.ref (L 30 0), .int a1, .int a2] z (.inl (some (.int r))) z' := by
  refine f_ofW (cc := c_m_fails) (maxL := 3) (ret := (some FieldType.boolean)) (by decide) w_m_fails (Nat.le_of_ble_eq_true rfl) ?_
  intro p e s m args below meth c R hRf hRl hRc hRs hx hb hr hlk hml hno hts hown hK hZ hsz
  intro H locs ls cells slots hW hS hl hc hs
  have hl : lv_has ls 3 [(0, .ref (L 30 0)), (1, .int a1), (2, .int a2)] := hl
  unfold F_m_fails at hF
  refine lv_aload_n hx hb d_m_fails_0 rfl (lv_at hl 0 rfl) ?_
  refine lv_iload_n hx hb d_m_fails_1 rfl (lv_at hl 1 rfl) ?_
  refine lv_if_eq (tgt := 9) hx hb d_m_fails_2 (by decide) (fun h1 => ?_) (fun h1 => ?_)
  · have hF := (if_pos h1).symm.trans hF
    refine lv_iconst (v := 0) hx hb d_m_fails_9 (by decide) ?_
    refine hw_put (k := 30) (i := 0) (n := 1) (j := 25) (v := 0) hx hb hts hown hK hLi hW hS fp_m_44 (vp_nar_int _) rfl rfl (by omega) d_m_fails_10 (fun H locs hW hS => ?_)
    refine lv_iload_n hx hb d_m_fails_13 rfl (lv_at hl 1 rfl) ?_
    obtain ⟨g2, hF⟩ := f_gd_some hF
    exact hw_iret hx hb hr hlk (f_nZ (f_bz_or g2)) hW hS (by omega) (by omega) d_m_fails_14 hF
  · have hF := (if_neg h1).symm.trans hF
    refine lv_iload_n hx hb d_m_fails_5 rfl (lv_at hl 2 rfl) ?_
    refine lv_goto (tgt := 10) hx hb d_m_fails_6 (by decide) ?_
    refine hw_put (k := 30) (i := 0) (n := 1) (j := 25) (v := a2) hx hb hts hown hK hLi hW hS fp_m_44 (vp_nar_int _) rfl rfl (by omega) d_m_fails_10 (fun H locs hW hS => ?_)
    refine lv_iload_n hx hb d_m_fails_13 rfl (lv_at hl 1 rfl) ?_
    obtain ⟨g3, hF⟩ := f_gd_some hF
    exact hw_iret hx hb hr hlk (f_nZ (f_bz_or g3)) hW hS (by omega) (by omega) d_m_fails_14 hF
set_option maxRecDepth 100000 in
set_option maxHeartbeats 4000000 in
theorem c_m_within_ok (l : Launch) (hl0 : l.stackTraces = false) {L : Nat → Nat → Nat} {Ar : Nat → ClassId} {D : va_G} {b0 : Nat} (hLi : f_L L b0) (a0 : Int32) (a1 : Int32) (a2 : Int32)  (z : fST) (r : Int32) (z' : fST) (hF : F_m_within a0 a1 a2 z = some (r, z')) : f_C l y_m_within wt 1 0 L Ar D b0 [.int a0, .int a1, .int a2] z (.inl (some (.int r))) z' := by
  refine f_ofW (cc := c_m_within) (maxL := 3) (ret := (some FieldType.boolean)) (by decide) w_m_within (Nat.le_of_ble_eq_true rfl) ?_
  intro p e s m args below meth c R hRf hRl hRc hRs hx hb hr hlk hml hno hts hown hK hZ hsz
  intro H locs ls cells slots hW hS hl hc hs
  have hl : lv_has ls 3 [(0, .int a0), (1, .int a1), (2, .int a2)] := hl
  unfold F_m_within at hF
  refine lv_iload_n hx hb d_m_within_0 rfl (lv_at hl 0 rfl) ?_
  refine lv_iload_n hx hb d_m_within_1 rfl (lv_at hl 1 rfl) ?_
  refine lv_icmp_lt (tgt := 14) hx hb d_m_within_2 (by decide) (fun h1 => ?_) (fun h1 => ?_)
  · have hF := (if_pos h1).symm.trans hF
    refine lv_iconst (v := 0) hx hb d_m_within_14 (by decide) ?_
    exact hw_iret hx hb hr hlk (f_nZ (Or.inl rfl)) hW hS (by omega) (by omega) d_m_within_15 hF
  · have hF := (if_neg h1).symm.trans hF
    refine lv_iload_n hx hb d_m_within_5 rfl (lv_at hl 0 rfl) ?_
    refine lv_iload_n hx hb d_m_within_6 rfl (lv_at hl 2 rfl) ?_
    refine lv_icmp_gt (tgt := 14) hx hb d_m_within_7 (by decide) (fun h2 => ?_) (fun h2 => ?_)
    · have hF := (if_pos h2).symm.trans hF
      refine lv_iconst (v := 0) hx hb d_m_within_14 (by decide) ?_
      exact hw_iret hx hb hr hlk (f_nZ (Or.inl rfl)) hW hS (by omega) (by omega) d_m_within_15 hF
    · have hF := (if_neg h2).symm.trans hF
      refine lv_iconst (v := 1) hx hb d_m_within_10 (by decide) ?_
      refine lv_goto (tgt := 15) hx hb d_m_within_11 (by decide) ?_
      exact hw_iret hx hb hr hlk (f_nZ (Or.inr rfl)) hW hS (by omega) (by omega) d_m_within_15 hF
set_option maxRecDepth 100000 in
set_option maxHeartbeats 4000000 in
theorem c_m_get_ok (l : Launch) (hl0 : l.stackTraces = false) {L : Nat → Nat → Nat} {Ar : Nat → ClassId} {D : va_G} {b0 : Nat} (hLi : f_L L b0) (a1 : Int32) (a2 : Int32)  (z : fST) (r : Int32) (z' : fST) (hF : F_m_get a1 a2 z = some (r, z')) : f_C l y_m_get wt 1 0 L Ar D b0 [.ref (L 30 0), .int a1, .int a2] z (.inl (some (.int r))) z' := by
  refine f_ofW (cc := c_m_get) (maxL := 3) (ret := (some FieldType.int)) (by decide) w_m_get (Nat.le_of_ble_eq_true rfl) ?_
  intro p e s m args below meth c R hRf hRl hRc hRs hx hb hr hlk hml hno hts hown hK hZ hsz
  intro H locs ls cells slots hW hS hl hc hs
  have hl : lv_has ls 3 [(0, .ref (L 30 0)), (1, .int a1), (2, .int a2)] := hl
  unfold F_m_get at hF
  refine lv_aload_n hx hb d_m_get_0 rfl (lv_at hl 0 rfl) ?_
  refine hw_get (k := 30) (i := 0) (n := 1) (j := 3) (v := .ref (L 34 0)) hx hb hts hown hK hW fl_m_19 rfl (by omega) rfl d_m_get_1 ?_
  refine lv_bipush (v := 20) hx hb d_m_get_4 (by decide) ?_
  refine lv_iload_n hx hb d_m_get_6 rfl (lv_at hl 1 rfl) ?_
  refine lv_imul hx hb d_m_get_7 ?_
  refine lv_iload_n hx hb d_m_get_8 rfl (lv_at hl 2 rfl) ?_
  refine lv_iadd hx hb d_m_get_9 ?_
  obtain ⟨g1, hF⟩ := f_gd_some hF
  refine hw_iald (k := 34) (i := 0) (n := 1) hx hb hK hW (by decide) rfl (by omega) rfl g1 d_m_get_10 ?_
  exact hw_iret hx hb hr hlk (vp_nar_int _) hW hS (by omega) (by omega) d_m_get_11 hF
set_option maxRecDepth 100000 in
set_option maxHeartbeats 4000000 in
theorem c_m_put_ok (l : Launch) (hl0 : l.stackTraces = false) {L : Nat → Nat → Nat} {Ar : Nat → ClassId} {D : va_G} {b0 : Nat} (hLi : f_L L b0) (a1 : Int32) (a2 : Int32) (a3 : Int32)  (z : fST) (r : Unit) (z' : fST) (hF : F_m_put a1 a2 a3 z = some (r, z')) : f_C l y_m_put wt 1 0 L Ar D b0 [.ref (L 30 0), .int a1, .int a2, .int a3] z (.inl none) z' := by
  refine f_ofW (cc := c_m_put) (maxL := 4) (ret := (Option.none : Option Jvm.ClassFile.FieldType)) (by decide) w_m_put (Nat.le_of_ble_eq_true rfl) ?_
  intro p e s m args below meth c R hRf hRl hRc hRs hx hb hr hlk hml hno hts hown hK hZ hsz
  intro H locs ls cells slots hW hS hl hc hs
  have hl : lv_has ls 4 [(0, .ref (L 30 0)), (1, .int a1), (2, .int a2), (3, .int a3)] := hl
  unfold F_m_put at hF
  refine lv_aload_n hx hb d_m_put_0 rfl (lv_at hl 0 rfl) ?_
  refine hw_get (k := 30) (i := 0) (n := 1) (j := 3) (v := .ref (L 34 0)) hx hb hts hown hK hW fl_m_19 rfl (by omega) rfl d_m_put_1 ?_
  refine lv_bipush (v := 20) hx hb d_m_put_4 (by decide) ?_
  refine lv_iload_n hx hb d_m_put_6 rfl (lv_at hl 1 rfl) ?_
  refine lv_imul hx hb d_m_put_7 ?_
  refine lv_iload_n hx hb d_m_put_8 rfl (lv_at hl 2 rfl) ?_
  refine lv_iadd hx hb d_m_put_9 ?_
  refine lv_iload_n hx hb d_m_put_10 rfl (lv_at hl 3 rfl) ?_
  obtain ⟨g1, hF⟩ := f_gd_some hF
  refine hw_iast (k := 34) (i := 0) (n := 1) hx hb hK hLi hW hS (by decide) rfl (by omega) rfl g1 d_m_put_11 (fun H locs hW hS => ?_)
  exact hw_vret hx hb hr hlk hW hS (by omega) (by omega) d_m_put_12 hF
set_option maxRecDepth 100000 in
set_option maxHeartbeats 4000000 in
theorem c_m_rear_ok (l : Launch) (hl0 : l.stackTraces = false) {L : Nat → Nat → Nat} {Ar : Nat → ClassId} {D : va_G} {b0 : Nat} (hLi : f_L L b0) (a1 : Int32)  (z : fST) (r : Int32) (z' : fST) (hF : F_m_rear a1 z = some (r, z')) : f_C l y_m_rear wt 2 0 L Ar D b0 [.ref (L 30 0), .int a1] z (.inl (some (.int r))) z' := by
  refine f_ofW (cc := c_m_rear) (maxL := 2) (ret := (some FieldType.int)) (by decide) w_m_rear (Nat.le_of_ble_eq_true rfl) ?_
  intro p e s m args below meth c R hRf hRl hRc hRs hx hb hr hlk hml hno hts hown hK hZ hsz
  intro H locs ls cells slots hW hS hl hc hs
  have hl : lv_has ls 2 [(0, .ref (L 30 0)), (1, .int a1)] := hl
  unfold F_m_rear at hF
  refine lv_aload_n hx hb d_m_rear_0 rfl (lv_at hl 0 rfl) ?_
  refine lv_iload_n hx hb d_m_rear_1 rfl (lv_at hl 1 rfl) ?_
  refine lv_iconst (v := 2) hx hb d_m_rear_2 (by decide) ?_
  obtain ⟨v1, z1, hc1, hF⟩ := f_bd_some hF
  refine hw_VR (k := 30) (i := 0) (nk := 1) (As := [.int a1, .int 2]) (rest := []) hx hb hml hown hts (c_m_get_ok l hl0 hLi a1 2  _ _ _ hc1) st_m_48 (by decide) rfl (by omega) rfl rfl hK hZ hsz hS hW rfl hl.1 (Nat.le_of_ble_eq_true rfl) d_m_rear_3 (by omega) (by omega) (by omega) (by omega) (fun H locs hW hS => ?_)
  refine lv_aload_n hx hb d_m_rear_6 rfl (lv_at hl 0 rfl) ?_
  refine lv_iload_n hx hb d_m_rear_7 rfl (lv_at hl 1 rfl) ?_
  refine lv_iconst (v := 1) hx hb d_m_rear_8 (by decide) ?_
  obtain ⟨v2, z2, hc2, hF⟩ := f_bd_some hF
  refine hw_VR (k := 30) (i := 0) (nk := 1) (As := [.int a1, .int 1]) (rest := [.int v1]) hx hb hml hown hts (c_m_get_ok l hl0 hLi a1 1  _ _ _ hc2) st_m_48 (by decide) rfl (by omega) rfl rfl hK hZ hsz hS hW rfl hl.1 (Nat.le_of_ble_eq_true rfl) d_m_rear_9 (by omega) (by omega) (by omega) (by omega) (fun H locs hW hS => ?_)
  refine lv_isub hx hb d_m_rear_12 ?_
  exact hw_iret hx hb hr hlk (vp_nar_int _) hW hS (by omega) (by omega) d_m_rear_13 hF
set_option maxRecDepth 100000 in
set_option maxHeartbeats 4000000 in
theorem c_m_remove_ok (l : Launch) (hl0 : l.stackTraces = false) {L : Nat → Nat → Nat} {Ar : Nat → ClassId} {D : va_G} {b0 : Nat} (hLi : f_L L b0) (a1 : Int32)  (z : fST) (r : Unit) (z' : fST) (hF : F_m_remove a1 z = some (r, z')) : f_C l y_m_remove wt 1 0 L Ar D b0 [.ref (L 30 0), .int a1] z (.inl none) z' := by
  refine f_ofW (cc := c_m_remove) (maxL := 3) (ret := (Option.none : Option Jvm.ClassFile.FieldType)) (by decide) w_m_remove (Nat.le_of_ble_eq_true rfl) ?_
  intro p e s m args below meth c R hRf hRl hRc hRs hx hb hr hlk hml hno hts hown hK hZ hsz
  have B15 : ∀  (n : Nat) (x2 : Int32) (z : fST), f_it (b_m_remove_15 ) n (x2, z) = some (r, z') →  f_B p l e R s m args below meth c L Ar D b0 3 0 (f_E below args s L Ar D b0 0 (.inl none) z') 0 15 [(0, .ref (L 30 0)), (2, .int x2)] [] z := by
    intro  n
    induction n with
    | zero => intro x2 z hF; cases hF
    | succ n ih =>
    intro x2 z hF  H locs ls cells slots hW hS hl hc hs
    have hF := f_it_s hF
    have K15 : ∀ (x2 : Int32) (z : fST), f_it (b_m_remove_15 ) n (x2, z) = some (r, z') →  f_B p l e R s m args below meth c L Ar D b0 3 0 (f_E below args s L Ar D b0 0 (.inl none) z') 0 15 [(0, .ref (L 30 0)), (2, .int x2)] [] z := fun x2 z hF => ih x2 z hF
    generalize f_it (b_m_remove_15 ) n = k15 at hF K15
    unfold b_m_remove_15 at hF
    dsimp only at hF
    refine lv_iload_n hx hb d_m_remove_15 rfl (lv_at hl 1 rfl) ?_
    refine lv_bipush (v := 20) hx hb d_m_remove_16 (by decide) ?_
    refine lv_aload_n hx hb d_m_remove_18 rfl (lv_at hl 0 rfl) ?_
    refine hw_get (k := 30) (i := 0) (n := 1) (j := 4) (v := .int (f_gI z 30 0 4)) hx hb hts hown hK hW fl_m_52 rfl (by omega) rfl d_m_remove_19 ?_
    refine lv_imul hx hb d_m_remove_22 ?_
    refine lv_icmp_ge (tgt := 47) hx hb d_m_remove_23 (by decide) (fun h1 => ?_) (fun h1 => ?_)
    · have hF := (if_pos h1).symm.trans hF
      exact hw_vret hx hb hr hlk hW hS (by omega) (by omega) d_m_remove_47 hF
    · have hF := (if_neg h1).symm.trans hF
      refine lv_aload_n hx hb d_m_remove_26 rfl (lv_at hl 0 rfl) ?_
      refine hw_get (k := 30) (i := 0) (n := 1) (j := 3) (v := .ref (L 34 0)) hx hb hts hown hK hW fl_m_19 rfl (by omega) rfl d_m_remove_27 ?_
      refine lv_iload_n hx hb d_m_remove_30 rfl (lv_at hl 1 rfl) ?_
      refine lv_aload_n hx hb d_m_remove_31 rfl (lv_at hl 0 rfl) ?_
      refine hw_get (k := 30) (i := 0) (n := 1) (j := 3) (v := .ref (L 34 0)) hx hb hts hown hK hW fl_m_19 rfl (by omega) rfl d_m_remove_32 ?_
      refine lv_iload_n hx hb d_m_remove_35 rfl (lv_at hl 1 rfl) ?_
      refine lv_bipush (v := 20) hx hb d_m_remove_36 (by decide) ?_
      refine lv_iadd hx hb d_m_remove_38 ?_
      obtain ⟨g2, hF⟩ := f_gd_some hF
      refine hw_iald (k := 34) (i := 0) (n := 1) hx hb hK hW (by decide) rfl (by omega) rfl g2 d_m_remove_39 ?_
      obtain ⟨g3, hF⟩ := f_gd_some hF
      refine hw_iast (k := 34) (i := 0) (n := 1) hx hb hK hLi hW hS (by decide) rfl (by omega) rfl g3 d_m_remove_40 (fun H locs hW hS => ?_)
      refine lv_iinc (k := 1) (x := x2) (v := x2 + 1) (lv' := [(2, .int (x2 + 1)), (0, .ref (L 30 0))]) hx hb d_m_remove_41 hl rfl rfl (by decide) rfl (fun ls hl => ?_)
      refine lv_goto (tgt := 15) hx hb d_m_remove_44 (by decide) ?_
      exact K15 (x2 + 1) (f_pI z 34 0 (f_ix x2) (f_gI z 34 0 (f_ix (x2 + 20)))) hF _ _ _ _ _ hW hS (lv_sub hl [1, 0] rfl) (by omega) (by omega)
  intro H locs ls cells slots hW hS hl hc hs
  have hl : lv_has ls 3 [(0, .ref (L 30 0)), (1, .int a1)] := hl
  unfold F_m_remove at hF
  refine lv_aload_n hx hb d_m_remove_0 rfl (lv_at hl 0 rfl) ?_
  refine lv_dup hx hb d_m_remove_1 rfl ?_
  refine hw_get (k := 30) (i := 0) (n := 1) (j := 4) (v := .int (f_gI z 30 0 4)) hx hb hts hown hK hW fl_m_52 rfl (by omega) rfl d_m_remove_2 ?_
  refine lv_iconst (v := 1) hx hb d_m_remove_5 (by decide) ?_
  refine lv_isub hx hb d_m_remove_6 ?_
  refine hw_put (k := 30) (i := 0) (n := 1) (j := 4) (v := (f_gI z 30 0 4) - 1) hx hb hts hown hK hLi hW hS fp_m_52 (vp_nar_int _) rfl rfl (by omega) d_m_remove_7 (fun H locs hW hS => ?_)
  refine lv_bipush (v := 20) hx hb d_m_remove_10 (by decide) ?_
  refine lv_iload_n hx hb d_m_remove_12 rfl (lv_at hl 1 rfl) ?_
  refine lv_imul hx hb d_m_remove_13 ?_
  refine lv_istore_n (lv' := [(2, .int (20 * a1)), (0, .ref (L 30 0)), (1, .int a1)]) hx hb d_m_remove_14 rfl hl (by decide) rfl (fun ls hl => ?_)
  exact B15 2000 (20 * a1) (f_pI z 30 0 4 ((f_gI z 30 0 4) - 1)) hF _ _ _ _ _ hW hS (lv_sub hl [1, 0] rfl) (by omega) (by omega)
set_option maxRecDepth 100000 in
set_option maxHeartbeats 4000000 in
theorem c_m_find_ok (l : Launch) (hl0 : l.stackTraces = false) {L : Nat → Nat → Nat} {Ar : Nat → ClassId} {D : va_G} {b0 : Nat} (hLi : f_L L b0) (a1 : Int32)  (z : fST) (r : Int32) (z' : fST) (hF : F_m_find a1 z = some (r, z')) : f_C l y_m_find wt 2 0 L Ar D b0 [.ref (L 30 0), .int a1] z (.inl (some (.int r))) z' := by
  refine f_ofW (cc := c_m_find) (maxL := 3) (ret := (some FieldType.int)) (by decide) w_m_find (Nat.le_of_ble_eq_true rfl) ?_
  intro p e s m args below meth c R hRf hRl hRc hRs hx hb hr hlk hml hno hts hown hK hZ hsz
  have B2 : ∀  (n : Nat) (x1 : Int32) (x2 : Int32) (z : fST), f_it (b_m_find_2 ) n (x1, x2, z) = some (r, z') →  f_B p l e R s m args below meth c L Ar D b0 3 0 (f_E below args s L Ar D b0 0 (.inl (some (.int r))) z') 0 2 [(0, .ref (L 30 0)), (1, .int x1), (2, .int x2)] [] z := by
    intro  n
    induction n with
    | zero => intro x1 x2 z hF; cases hF
    | succ n ih =>
    intro x1 x2 z hF  H locs ls cells slots hW hS hl hc hs
    have hF := f_it_s hF
    have K2 : ∀ (x1 : Int32) (x2 : Int32) (z : fST), f_it (b_m_find_2 ) n (x1, x2, z) = some (r, z') →  f_B p l e R s m args below meth c L Ar D b0 3 0 (f_E below args s L Ar D b0 0 (.inl (some (.int r))) z') 0 2 [(0, .ref (L 30 0)), (1, .int x1), (2, .int x2)] [] z := fun x1 x2 z hF => ih x1 x2 z hF
    generalize f_it (b_m_find_2 ) n = k2 at hF K2
    unfold b_m_find_2 at hF
    dsimp only at hF
    refine lv_iload_n hx hb d_m_find_2 rfl (lv_at hl 2 rfl) ?_
    refine lv_aload_n hx hb d_m_find_3 rfl (lv_at hl 0 rfl) ?_
    refine hw_get (k := 30) (i := 0) (n := 1) (j := 4) (v := .int (f_gI z 30 0 4)) hx hb hts hown hK hW fl_m_52 rfl (by omega) rfl d_m_find_4 ?_
    refine lv_icmp_ge (tgt := 28) hx hb d_m_find_7 (by decide) (fun h1 => ?_) (fun h1 => ?_)
    · have hF := (if_pos h1).symm.trans hF
      refine lv_iconst (v := (-1)) hx hb d_m_find_28 (by decide) ?_
      exact hw_iret hx hb hr hlk (vp_nar_int _) hW hS (by omega) (by omega) d_m_find_29 hF
    · have hF := (if_neg h1).symm.trans hF
      refine lv_aload_n hx hb d_m_find_10 rfl (lv_at hl 0 rfl) ?_
      refine lv_iload_n hx hb d_m_find_11 rfl (lv_at hl 2 rfl) ?_
      refine lv_iconst (v := 0) hx hb d_m_find_12 (by decide) ?_
      obtain ⟨v2, z2, hc2, hF⟩ := f_bd_some hF
      refine hw_VR (k := 30) (i := 0) (nk := 1) (As := [.int x2, .int 0]) (rest := []) hx hb hml hown hts (c_m_get_ok l hl0 hLi x2 0  _ _ _ hc2) st_m_48 (by decide) rfl (by omega) rfl rfl hK hZ hsz hS hW rfl hl.1 (Nat.le_of_ble_eq_true rfl) d_m_find_13 (by omega) (by omega) (by omega) (by omega) (fun H locs hW hS => ?_)
      refine lv_iload_n hx hb d_m_find_16 rfl (lv_at hl 1 rfl) ?_
      refine lv_icmp_ne (tgt := 22) hx hb d_m_find_17 (by decide) (fun h3 => ?_) (fun h3 => ?_)
      · have hF := (if_neg h3).symm.trans hF
        refine lv_iinc (k := 2) (x := x2) (v := x2 + 1) (lv' := [(2, .int (x2 + 1)), (0, .ref (L 30 0)), (1, .int x1)]) hx hb d_m_find_22 hl rfl rfl (by decide) rfl (fun ls hl => ?_)
        refine lv_goto (tgt := 2) hx hb d_m_find_25 (by decide) ?_
        exact K2 x1 (x2 + 1) z2 hF _ _ _ _ _ hW hS (lv_sub hl [1, 2, 0] rfl) (by omega) (by omega)
      · have hF := (if_pos h3).symm.trans hF
        refine lv_iload_n hx hb d_m_find_20 rfl (lv_at hl 2 rfl) ?_
        exact hw_iret hx hb hr hlk (vp_nar_int _) hW hS (by omega) (by omega) d_m_find_21 hF
  intro H locs ls cells slots hW hS hl hc hs
  have hl : lv_has ls 3 [(0, .ref (L 30 0)), (1, .int a1)] := hl
  unfold F_m_find at hF
  refine lv_iconst (v := 0) hx hb d_m_find_0 (by decide) ?_
  refine lv_istore_n (lv' := [(2, .int 0), (0, .ref (L 30 0)), (1, .int a1)]) hx hb d_m_find_1 rfl hl (by decide) rfl (fun ls hl => ?_)
  exact B2 2000 a1 0 z hF _ _ _ _ _ hW hS (lv_sub hl [1, 2, 0] rfl) (by omega) (by omega)
set_option maxRecDepth 100000 in
set_option maxHeartbeats 4000000 in
theorem c_m_contour_ok (l : Launch) (hl0 : l.stackTraces = false) {L : Nat → Nat → Nat} {Ar : Nat → ClassId} {D : va_G} {b0 : Nat} (hLi : f_L L b0) (a1 : Int32) (a2 : Int32) (a3 : Int32) (a4 : Int32)  (z : fST) (r : Unit) (z' : fST) (hF : F_m_contour a1 a2 a3 a4 z = some (r, z')) : f_C l y_m_contour wt 2 0 L Ar D b0 [.ref (L 30 0), .int a1, .int a2, .int a3, .int a4] z (.inl none) z' := by
  refine f_ofW (cc := c_m_contour) (maxL := 6) (ret := (Option.none : Option Jvm.ClassFile.FieldType)) (by decide) w_m_contour (Nat.le_of_ble_eq_true rfl) ?_
  intro p e s m args below meth c R hRf hRl hRc hRs hx hb hr hlk hml hno hts hown hK hZ hsz
  have B80 : ∀ (k51 : Int32 × Int32 × Int32 × Int32 × Int32 × fST → Option (Unit × fST)) (K51 : ∀ (x1 : Int32) (x2 : Int32) (x3 : Int32) (x4 : Int32) (x5 : Int32) (z : fST), k51 (x1, x2, x3, x4, x5, z) = some (r, z') →  f_B p l e R s m args below meth c L Ar D b0 6 0 (f_E below args s L Ar D b0 0 (.inl none) z') 0 51 [(0, .ref (L 30 0)), (1, .int x1), (2, .int x2), (3, .int x3), (4, .int x4), (5, .int x5)] [] z) (x1 : Int32) (x2 : Int32) (x3 : Int32) (x4 : Int32) (x5 : Int32) (y1 : Int32) (y2 : Int32) (z : fST), b_m_contour_80 k51 x1 x2 x3 x4 x5 y1 y2 z = some (r, z') →  f_B p l e R s m args below meth c L Ar D b0 6 0 (f_E below args s L Ar D b0 0 (.inl none) z') 0 80 [(0, .ref (L 30 0)), (1, .int x1), (2, .int x2), (3, .int x3), (4, .int x4), (5, .int x5)] [.int y2, .int y1, .ref (L 31 0)] z := by
    intro k51 K51 x1 x2 x3 x4 x5 y1 y2 z hF  H locs ls cells slots hW hS hl hc hs
    unfold b_m_contour_80 at hF
    refine lv_bipush (v := 24) hx hb d_m_contour_80 (by decide) ?_
    refine lv_bipush (v := 8) hx hb d_m_contour_82 (by decide) ?_
    refine lv_iload hx hb d_m_contour_84 (lv_at hl 5 rfl) ?_
    refine lv_iconst (v := 4) hx hb d_m_contour_86 (by decide) ?_
    refine lv_irem hx hb d_m_contour_87 (by decide) ?_
    refine lv_imul hx hb d_m_contour_88 ?_
    refine lv_isub hx hb d_m_contour_89 ?_
    refine lv_ishr hx hb d_m_contour_90 ?_
    refine lv_sipush (v := 255) hx hb d_m_contour_91 (by decide) ?_
    refine lv_iand hx hb d_m_contour_94 ?_
    obtain ⟨g12, hF⟩ := f_gd_some hF
    refine hw_iast (k := 31) (i := 0) (n := 1) hx hb hK hLi hW hS (by decide) rfl (by omega) rfl g12 d_m_contour_95 (fun H locs hW hS => ?_)
    refine lv_iinc (k := 5) (x := x5) (v := x5 + 1) (lv' := [(5, .int (x5 + 1)), (0, .ref (L 30 0)), (1, .int x1), (2, .int x2), (3, .int x3), (4, .int x4)]) hx hb d_m_contour_96 hl rfl rfl (by decide) rfl (fun ls hl => ?_)
    refine lv_goto (tgt := 51) hx hb d_m_contour_99 (by decide) ?_
    exact K51 x1 x2 x3 x4 (x5 + 1) (f_pI z 31 0 (f_ix y1) ((y2 >>> ((24 - (8 * (x5 - x5 / 4 * 4))) &&& 31)) &&& 255)) hF _ _ _ _ _ hW hS (lv_sub hl [1, 2, 3, 4, 5, 0] rfl) (by omega) (by omega)
  have B51 : ∀  (n : Nat) (x1 : Int32) (x2 : Int32) (x3 : Int32) (x4 : Int32) (x5 : Int32) (z : fST), f_it (b_m_contour_51 ) n (x1, x2, x3, x4, x5, z) = some (r, z') →  f_B p l e R s m args below meth c L Ar D b0 6 0 (f_E below args s L Ar D b0 0 (.inl none) z') 0 51 [(0, .ref (L 30 0)), (1, .int x1), (2, .int x2), (3, .int x3), (4, .int x4), (5, .int x5)] [] z := by
    intro  n
    induction n with
    | zero => intro x1 x2 x3 x4 x5 z hF; cases hF
    | succ n ih =>
    intro x1 x2 x3 x4 x5 z hF  H locs ls cells slots hW hS hl hc hs
    have hF := f_it_s hF
    have K51 : ∀ (x1 : Int32) (x2 : Int32) (x3 : Int32) (x4 : Int32) (x5 : Int32) (z : fST), f_it (b_m_contour_51 ) n (x1, x2, x3, x4, x5, z) = some (r, z') →  f_B p l e R s m args below meth c L Ar D b0 6 0 (f_E below args s L Ar D b0 0 (.inl none) z') 0 51 [(0, .ref (L 30 0)), (1, .int x1), (2, .int x2), (3, .int x3), (4, .int x4), (5, .int x5)] [] z := fun x1 x2 x3 x4 x5 z hF => ih x1 x2 x3 x4 x5 z hF
    generalize f_it (b_m_contour_51 ) n = k51 at hF K51
    unfold b_m_contour_51 at hF
    dsimp only at hF
    refine lv_iload hx hb d_m_contour_51 (lv_at hl 5 rfl) ?_
    refine lv_bipush (v := 8) hx hb d_m_contour_53 (by decide) ?_
    refine lv_icmp_ge (tgt := 102) hx hb d_m_contour_55 (by decide) (fun h9 => ?_) (fun h9 => ?_)
    · have hF := (if_pos h9).symm.trans hF
      refine lv_aload_n hx hb d_m_contour_102 rfl (lv_at hl 0 rfl) ?_
      refine hw_get (k := 30) (i := 0) (n := 1) (j := 1) (v := .ref (L 32 0)) hx hb hts hown hK hW fl_m_13 rfl (by omega) rfl d_m_contour_103 ?_
      refine lv_iload_n hx hb d_m_contour_106 rfl (lv_at hl 1 rfl) ?_
      refine lv_iload hx hb d_m_contour_107 (lv_at hl 4 rfl) ?_
      obtain ⟨g10, hF⟩ := f_gd_some hF
      refine hw_iast (k := 32) (i := 0) (n := 1) hx hb hK hLi hW hS (by decide) rfl (by omega) rfl g10 d_m_contour_109 (fun H locs hW hS => ?_)
      exact hw_vret hx hb hr hlk hW hS (by omega) (by omega) d_m_contour_110 hF
    · have hF := (if_neg h9).symm.trans hF
      refine lv_aload_n hx hb d_m_contour_58 rfl (lv_at hl 0 rfl) ?_
      refine hw_get (k := 30) (i := 0) (n := 1) (j := 0) (v := .ref (L 31 0)) hx hb hts hown hK hW fl_m_7 rfl (by omega) rfl d_m_contour_59 ?_
      refine lv_bipush (v := 8) hx hb d_m_contour_62 (by decide) ?_
      refine lv_iload_n hx hb d_m_contour_64 rfl (lv_at hl 1 rfl) ?_
      refine lv_imul hx hb d_m_contour_65 ?_
      refine lv_iload hx hb d_m_contour_66 (lv_at hl 5 rfl) ?_
      refine lv_iadd hx hb d_m_contour_68 ?_
      refine lv_iload hx hb d_m_contour_69 (lv_at hl 5 rfl) ?_
      refine lv_iconst (v := 4) hx hb d_m_contour_71 (by decide) ?_
      refine lv_icmp_ge (tgt := 79) hx hb d_m_contour_72 (by decide) (fun h11 => ?_) (fun h11 => ?_)
      · have hF := (if_pos h11).symm.trans hF
        refine lv_iload_n hx hb d_m_contour_79 rfl (lv_at hl 3 rfl) ?_
        exact B80 k51 K51 x1 x2 x3 x4 x5 ((8 * x1) + x5) x3 z hF _ _ _ _ _ hW hS (lv_sub hl [0, 1, 2, 3, 4, 5] rfl) (by omega) (by omega)
      · have hF := (if_neg h11).symm.trans hF
        refine lv_iload_n hx hb d_m_contour_75 rfl (lv_at hl 2 rfl) ?_
        refine lv_goto (tgt := 80) hx hb d_m_contour_76 (by decide) ?_
        exact B80 k51 K51 x1 x2 x3 x4 x5 ((8 * x1) + x5) x2 z hF _ _ _ _ _ hW hS (lv_sub hl [0, 1, 2, 3, 4, 5] rfl) (by omega) (by omega)
  have B40 : ∀  (x1 : Int32) (x2 : Int32) (x3 : Int32) (x4 : Int32) (y1 : Int32) (z : fST), b_m_contour_40  x1 x2 x3 x4 y1 z = some (r, z') →  f_B p l e R s m args below meth c L Ar D b0 6 0 (f_E below args s L Ar D b0 0 (.inl none) z') 0 40 [(0, .ref (L 30 0)), (1, .int x1), (2, .int x2), (3, .int x3), (4, .int x4)] [.int y1, .ref (L 30 0)] z := by
    intro  x1 x2 x3 x4 y1 z hF  H locs ls cells slots hW hS hl hc hs
    unfold b_m_contour_40 at hF
    refine lv_iconst (v := 2) hx hb d_m_contour_40 (by decide) ?_
    obtain ⟨v7, z7, hc7, hF⟩ := f_bd_some hF
    refine hw_VR (k := 30) (i := 0) (nk := 1) (As := [.int y1, .int 2]) (rest := []) hx hb hml hown hts (c_m_fails_ok l hl0 hLi y1 2  _ _ _ hc7) st_m_59 (by decide) rfl (by omega) rfl rfl hK hZ hsz hS hW rfl hl.1 (Nat.le_of_ble_eq_true rfl) d_m_contour_41 (by omega) (by omega) (by omega) (by omega) (fun H locs hW hS => ?_)
    refine lv_if_eq (tgt := 48) hx hb d_m_contour_44 (by decide) (fun h8 => ?_) (fun h8 => ?_)
    · have hF := (if_pos h8).symm.trans hF
      refine lv_iconst (v := 0) hx hb d_m_contour_48 (by decide) ?_
      refine lv_istore (lv' := [(5, .int 0), (0, .ref (L 30 0)), (1, .int x1), (2, .int x2), (3, .int x3), (4, .int x4)]) hx hb d_m_contour_49 hl (by decide) rfl (fun ls hl => ?_)
      exact B51 2000 x1 x2 x3 x4 0 z7 hF _ _ _ _ _ hW hS (lv_sub hl [1, 2, 3, 4, 5, 0] rfl) (by omega) (by omega)
    · have hF := (if_neg h8).symm.trans hF
      exact hw_vret hx hb hr hlk hW hS (by omega) (by omega) d_m_contour_47 hF
  have B35 : ∀  (x1 : Int32) (x2 : Int32) (x3 : Int32) (x4 : Int32) (z : fST), b_m_contour_35  x1 x2 x3 x4 z = some (r, z') →  f_B p l e R s m args below meth c L Ar D b0 6 0 (f_E below args s L Ar D b0 0 (.inl none) z') 0 35 [(0, .ref (L 30 0)), (1, .int x1), (2, .int x2), (3, .int x3), (4, .int x4)] [.ref (L 30 0)] z := by
    intro  x1 x2 x3 x4 z hF  H locs ls cells slots hW hS hl hc hs
    unfold b_m_contour_35 at hF
    refine lv_iconst (v := 1) hx hb d_m_contour_35 (by decide) ?_
    refine lv_goto (tgt := 40) hx hb d_m_contour_36 (by decide) ?_
    exact B40 x1 x2 x3 x4 1 z hF _ _ _ _ _ hW hS (lv_sub hl [0, 1, 2, 3, 4] rfl) (by omega) (by omega)
  intro H locs ls cells slots hW hS hl hc hs
  have hl : lv_has ls 6 [(0, .ref (L 30 0)), (1, .int a1), (2, .int a2), (3, .int a3), (4, .int a4)] := hl
  unfold F_m_contour at hF
  refine lv_aload_n hx hb d_m_contour_0 rfl (lv_at hl 0 rfl) ?_
  refine lv_aload_n hx hb d_m_contour_1 rfl (lv_at hl 0 rfl) ?_
  refine hw_get (k := 30) (i := 0) (n := 1) (j := 17) (v := .int (f_gI z 30 0 17)) hx hb hts hown hK hW fl_m_55 rfl (by omega) rfl d_m_contour_2 ?_
  refine lv_iconst (v := 1) hx hb d_m_contour_5 (by decide) ?_
  obtain ⟨v1, z1, hc1, hF⟩ := f_bd_some hF
  refine hw_VR (k := 30) (i := 0) (nk := 1) (As := [.int (f_gI z 30 0 17), .int 1]) (rest := []) hx hb hml hown hts (c_m_fails_ok l hl0 hLi (f_gI z 30 0 17) 1  _ _ _ hc1) st_m_59 (by decide) rfl (by omega) rfl rfl hK hZ hsz hS hW rfl hl.1 (Nat.le_of_ble_eq_true rfl) d_m_contour_6 (by omega) (by omega) (by omega) (by omega) (fun H locs hW hS => ?_)
  refine lv_if_ne (tgt := 47) hx hb d_m_contour_9 (by decide) (fun h2 => ?_) (fun h2 => ?_)
  · have hF := (if_neg h2).symm.trans hF
    exact hw_vret hx hb hr hlk hW hS (by omega) (by omega) d_m_contour_47 hF
  · have hF := (if_pos h2).symm.trans hF
    refine lv_aload_n hx hb d_m_contour_12 rfl (lv_at hl 0 rfl) ?_
    refine lv_iload_n hx hb d_m_contour_13 rfl (lv_at hl 1 rfl) ?_
    refine lv_iconst (v := 0) hx hb d_m_contour_14 (by decide) ?_
    refine lv_bipush (v := 7) hx hb d_m_contour_15 (by decide) ?_
    obtain ⟨v3, z3, hc3, hF⟩ := f_bd_some hF
    refine hw_SR (As := [.int a1, .int 0, .int 7]) (rest := [.ref (L 30 0)]) hx hb hml hown hts (c_m_within_ok l hl0 hLi a1 0 7  _ _ _ hc3) st_m_63 hK hZ hsz hS hW rfl hl.1 (Nat.le_of_ble_eq_true rfl) d_m_contour_17 (by omega) (by omega) (by omega) (by omega) (fun H locs hW hS => ?_)
    refine lv_if_eq (tgt := 35) hx hb d_m_contour_20 (by decide) (fun h4 => ?_) (fun h4 => ?_)
    · have hF := (if_pos h4).symm.trans hF
      exact B35 a1 a2 a3 a4 z3 hF _ _ _ _ _ hW hS (lv_sub hl [0, 1, 2, 3, 4] rfl) (by omega) (by omega)
    · have hF := (if_neg h4).symm.trans hF
      refine lv_iload hx hb d_m_contour_23 (lv_at hl 4 rfl) ?_
      refine lv_iconst (v := 0) hx hb d_m_contour_25 (by decide) ?_
      refine lv_sipush (v := 2040) hx hb d_m_contour_26 (by decide) ?_
      obtain ⟨v5, z5, hc5, hF⟩ := f_bd_some hF
      refine hw_SR (As := [.int a4, .int 0, .int 2040]) (rest := [.ref (L 30 0)]) hx hb hml hown hts (c_m_within_ok l hl0 hLi a4 0 2040  _ _ _ hc5) st_m_63 hK hZ hsz hS hW rfl hl.1 (Nat.le_of_ble_eq_true rfl) d_m_contour_29 (by omega) (by omega) (by omega) (by omega) (fun H locs hW hS => ?_)
      refine lv_if_ne (tgt := 39) hx hb d_m_contour_32 (by decide) (fun h6 => ?_) (fun h6 => ?_)
      · have hF := (if_neg h6).symm.trans hF
        refine lv_iconst (v := 0) hx hb d_m_contour_39 (by decide) ?_
        exact B40 a1 a2 a3 a4 0 z5 hF _ _ _ _ _ hW hS (lv_sub hl [0, 1, 2, 3, 4] rfl) (by omega) (by omega)
      · have hF := (if_pos h6).symm.trans hF
        exact B35 a1 a2 a3 a4 z5 hF _ _ _ _ _ hW hS (lv_sub hl [0, 1, 2, 3, 4] rfl) (by omega) (by omega)
set_option maxRecDepth 100000 in
set_option maxHeartbeats 4000000 in
theorem c_m_kindOf_ok (l : Launch) (hl0 : l.stackTraces = false) {L : Nat → Nat → Nat} {Ar : Nat → ClassId} {D : va_G} {b0 : Nat} (hLi : f_L L b0) (a1 : Int32)  (z : fST) (r : Int32) (z' : fST) (hF : F_m_kindOf a1 z = some (r, z')) : f_C l y_m_kindOf wt 1 0 L Ar D b0 [.ref (L 30 0), .int a1] z (.inl (some (.int r))) z' := by
  refine f_ofW (cc := c_m_kindOf) (maxL := 3) (ret := (some FieldType.int)) (by decide) w_m_kindOf (Nat.le_of_ble_eq_true rfl) ?_
  intro p e s m args below meth c R hRf hRl hRc hRs hx hb hr hlk hml hno hts hown hK hZ hsz
  have B2 : ∀  (n : Nat) (x1 : Int32) (x2 : Int32) (z : fST), f_it (b_m_kindOf_2 ) n (x1, x2, z) = some (r, z') →  f_B p l e R s m args below meth c L Ar D b0 3 0 (f_E below args s L Ar D b0 0 (.inl (some (.int r))) z') 0 2 [(0, .ref (L 30 0)), (1, .int x1), (2, .int x2)] [] z := by
    intro  n
    induction n with
    | zero => intro x1 x2 z hF; cases hF
    | succ n ih =>
    intro x1 x2 z hF  H locs ls cells slots hW hS hl hc hs
    have hF := f_it_s hF
    have K2 : ∀ (x1 : Int32) (x2 : Int32) (z : fST), f_it (b_m_kindOf_2 ) n (x1, x2, z) = some (r, z') →  f_B p l e R s m args below meth c L Ar D b0 3 0 (f_E below args s L Ar D b0 0 (.inl (some (.int r))) z') 0 2 [(0, .ref (L 30 0)), (1, .int x1), (2, .int x2)] [] z := fun x1 x2 z hF => ih x1 x2 z hF
    generalize f_it (b_m_kindOf_2 ) n = k2 at hF K2
    unfold b_m_kindOf_2 at hF
    dsimp only at hF
    refine lv_iload_n hx hb d_m_kindOf_2 rfl (lv_at hl 2 rfl) ?_
    refine lv_bipush (v := 40) hx hb d_m_kindOf_3 (by decide) ?_
    refine lv_icmp_ge (tgt := 29) hx hb d_m_kindOf_5 (by decide) (fun h1 => ?_) (fun h1 => ?_)
    · have hF := (if_pos h1).symm.trans hF
      refine lv_iconst (v := (-1)) hx hb d_m_kindOf_29 (by decide) ?_
      exact hw_iret hx hb hr hlk (vp_nar_int _) hW hS (by omega) (by omega) d_m_kindOf_30 hF
    · have hF := (if_neg h1).symm.trans hF
      refine lv_aload_n hx hb d_m_kindOf_8 rfl (lv_at hl 0 rfl) ?_
      refine hw_get (k := 30) (i := 0) (n := 1) (j := 2) (v := .ref (L 33 0)) hx hb hts hown hK hW fl_m_16 rfl (by omega) rfl d_m_kindOf_9 ?_
      refine lv_bipush (v := 6) hx hb d_m_kindOf_12 (by decide) ?_
      refine lv_iload_n hx hb d_m_kindOf_14 rfl (lv_at hl 2 rfl) ?_
      refine lv_imul hx hb d_m_kindOf_15 ?_
      obtain ⟨g2, hF⟩ := f_gd_some hF
      refine hw_iald (k := 33) (i := 0) (n := 1) hx hb hK hW (by decide) rfl (by omega) rfl g2 d_m_kindOf_16 ?_
      refine lv_iload_n hx hb d_m_kindOf_17 rfl (lv_at hl 1 rfl) ?_
      refine lv_icmp_ne (tgt := 23) hx hb d_m_kindOf_18 (by decide) (fun h3 => ?_) (fun h3 => ?_)
      · have hF := (if_neg h3).symm.trans hF
        refine lv_iinc (k := 2) (x := x2) (v := x2 + 1) (lv' := [(2, .int (x2 + 1)), (0, .ref (L 30 0)), (1, .int x1)]) hx hb d_m_kindOf_23 hl rfl rfl (by decide) rfl (fun ls hl => ?_)
        refine lv_goto (tgt := 2) hx hb d_m_kindOf_26 (by decide) ?_
        exact K2 x1 (x2 + 1) z hF _ _ _ _ _ hW hS (lv_sub hl [1, 2, 0] rfl) (by omega) (by omega)
      · have hF := (if_pos h3).symm.trans hF
        refine lv_iload_n hx hb d_m_kindOf_21 rfl (lv_at hl 2 rfl) ?_
        exact hw_iret hx hb hr hlk (vp_nar_int _) hW hS (by omega) (by omega) d_m_kindOf_22 hF
  intro H locs ls cells slots hW hS hl hc hs
  have hl : lv_has ls 3 [(0, .ref (L 30 0)), (1, .int a1)] := hl
  unfold F_m_kindOf at hF
  refine lv_iconst (v := 0) hx hb d_m_kindOf_0 (by decide) ?_
  refine lv_istore_n (lv' := [(2, .int 0), (0, .ref (L 30 0)), (1, .int a1)]) hx hb d_m_kindOf_1 rfl hl (by decide) rfl (fun ls hl => ?_)
  exact B2 2000 a1 0 z hF _ _ _ _ _ hW hS (lv_sub hl [1, 2, 0] rfl) (by omega) (by omega)
set_option maxRecDepth 100000 in
set_option maxHeartbeats 4000000 in
theorem c_m_kind_ok (l : Launch) (hl0 : l.stackTraces = false) {L : Nat → Nat → Nat} {Ar : Nat → ClassId} {D : va_G} {b0 : Nat} (hLi : f_L L b0) (a1 : Int32) (a2 : Int32) (a3 : Int32) (a4 : Int32) (a5 : Int32) (a6 : Int32) (a7 : Int32)  (z : fST) (r : Int32) (z' : fST) (hF : F_m_kind a1 a2 a3 a4 a5 a6 a7 z = some (r, z')) : f_C l y_m_kind wt 2 0 L Ar D b0 [.ref (L 30 0), .int a1, .int a2, .int a3, .int a4, .int a5, .int a6, .int a7] z (.inl (some (.int r))) z' := by
  refine f_ofW (cc := c_m_kind) (maxL := 11) (ret := (some FieldType.int)) (by decide) w_m_kind (Nat.le_of_ble_eq_true rfl) ?_
  intro p e s m args below meth c R hRf hRl hRc hRs hx hb hr hlk hml hno hts hown hK hZ hsz
  have B161 : ∀  (x1 : Int32) (x2 : Int32) (x3 : Int32) (x4 : Int32) (x5 : Int32) (x6 : Int32) (x7 : Int32) (x9 : Int32) (z : fST), b_m_kind_161  x1 x2 x3 x4 x5 x6 x7 x9 z = some (r, z') →  f_B p l e R s m args below meth c L Ar D b0 11 0 (f_E below args s L Ar D b0 0 (.inl (some (.int r))) z') 0 161 [(0, .ref (L 30 0)), (1, .int x1), (2, .int x2), (3, .int x3), (4, .int x4), (5, .int x5), (6, .int x6), (7, .int x7), (9, .int x9)] [] z := by
    intro  x1 x2 x3 x4 x5 x6 x7 x9 z hF  H locs ls cells slots hW hS hl hc hs
    unfold b_m_kind_161 at hF
    refine lv_bipush (v := 6) hx hb d_m_kind_161 (by decide) ?_
    refine lv_iload_n hx hb d_m_kind_163 rfl (lv_at hl 1 rfl) ?_
    refine lv_imul hx hb d_m_kind_164 ?_
    refine lv_istore (lv' := [(10, .int (6 * x1)), (0, .ref (L 30 0)), (1, .int x1), (2, .int x2), (3, .int x3), (4, .int x4), (5, .int x5), (6, .int x6), (7, .int x7), (9, .int x9)]) hx hb d_m_kind_165 hl (by decide) rfl (fun ls hl => ?_)
    refine lv_aload_n hx hb d_m_kind_167 rfl (lv_at hl 1 rfl) ?_
    refine hw_get (k := 30) (i := 0) (n := 1) (j := 2) (v := .ref (L 33 0)) hx hb hts hown hK hW fl_m_16 rfl (by omega) rfl d_m_kind_168 ?_
    refine lv_iload hx hb d_m_kind_171 (lv_at hl 0 rfl) ?_
    refine lv_iload_n hx hb d_m_kind_173 rfl (lv_at hl 3 rfl) ?_
    obtain ⟨g26, hF⟩ := f_gd_some hF
    refine hw_iast (k := 33) (i := 0) (n := 1) hx hb hK hLi hW hS (by decide) rfl (by omega) rfl g26 d_m_kind_174 (fun H locs hW hS => ?_)
    refine lv_aload_n hx hb d_m_kind_175 rfl (lv_at hl 1 rfl) ?_
    refine hw_get (k := 30) (i := 0) (n := 1) (j := 2) (v := .ref (L 33 0)) hx hb hts hown hK hW fl_m_16 rfl (by omega) rfl d_m_kind_176 ?_
    refine lv_iload hx hb d_m_kind_179 (lv_at hl 0 rfl) ?_
    refine lv_iconst (v := 1) hx hb d_m_kind_181 (by decide) ?_
    refine lv_iadd hx hb d_m_kind_182 ?_
    refine lv_iload_n hx hb d_m_kind_183 rfl (lv_at hl 4 rfl) ?_
    obtain ⟨g27, hF⟩ := f_gd_some hF
    refine hw_iast (k := 33) (i := 0) (n := 1) hx hb hK hLi hW hS (by decide) rfl (by omega) rfl g27 d_m_kind_184 (fun H locs hW hS => ?_)
    refine lv_aload_n hx hb d_m_kind_185 rfl (lv_at hl 1 rfl) ?_
    refine hw_get (k := 30) (i := 0) (n := 1) (j := 2) (v := .ref (L 33 0)) hx hb hts hown hK hW fl_m_16 rfl (by omega) rfl d_m_kind_186 ?_
    refine lv_iload hx hb d_m_kind_189 (lv_at hl 0 rfl) ?_
    refine lv_iconst (v := 2) hx hb d_m_kind_191 (by decide) ?_
    refine lv_iadd hx hb d_m_kind_192 ?_
    refine lv_iload hx hb d_m_kind_193 (lv_at hl 5 rfl) ?_
    obtain ⟨g28, hF⟩ := f_gd_some hF
    refine hw_iast (k := 33) (i := 0) (n := 1) hx hb hK hLi hW hS (by decide) rfl (by omega) rfl g28 d_m_kind_195 (fun H locs hW hS => ?_)
    refine lv_aload_n hx hb d_m_kind_196 rfl (lv_at hl 1 rfl) ?_
    refine hw_get (k := 30) (i := 0) (n := 1) (j := 2) (v := .ref (L 33 0)) hx hb hts hown hK hW fl_m_16 rfl (by omega) rfl d_m_kind_197 ?_
    refine lv_iload hx hb d_m_kind_200 (lv_at hl 0 rfl) ?_
    refine lv_iconst (v := 3) hx hb d_m_kind_202 (by decide) ?_
    refine lv_iadd hx hb d_m_kind_203 ?_
    refine lv_iload hx hb d_m_kind_204 (lv_at hl 6 rfl) ?_
    obtain ⟨g29, hF⟩ := f_gd_some hF
    refine hw_iast (k := 33) (i := 0) (n := 1) hx hb hK hLi hW hS (by decide) rfl (by omega) rfl g29 d_m_kind_206 (fun H locs hW hS => ?_)
    refine lv_aload_n hx hb d_m_kind_207 rfl (lv_at hl 1 rfl) ?_
    refine hw_get (k := 30) (i := 0) (n := 1) (j := 2) (v := .ref (L 33 0)) hx hb hts hown hK hW fl_m_16 rfl (by omega) rfl d_m_kind_208 ?_
    refine lv_iload hx hb d_m_kind_211 (lv_at hl 0 rfl) ?_
    refine lv_iconst (v := 4) hx hb d_m_kind_213 (by decide) ?_
    refine lv_iadd hx hb d_m_kind_214 ?_
    refine lv_iload hx hb d_m_kind_215 (lv_at hl 7 rfl) ?_
    obtain ⟨g30, hF⟩ := f_gd_some hF
    refine hw_iast (k := 33) (i := 0) (n := 1) hx hb hK hLi hW hS (by decide) rfl (by omega) rfl g30 d_m_kind_217 (fun H locs hW hS => ?_)
    refine lv_aload_n hx hb d_m_kind_218 rfl (lv_at hl 1 rfl) ?_
    refine hw_get (k := 30) (i := 0) (n := 1) (j := 2) (v := .ref (L 33 0)) hx hb hts hown hK hW fl_m_16 rfl (by omega) rfl d_m_kind_219 ?_
    refine lv_iload hx hb d_m_kind_222 (lv_at hl 0 rfl) ?_
    refine lv_iconst (v := 5) hx hb d_m_kind_224 (by decide) ?_
    refine lv_iadd hx hb d_m_kind_225 ?_
    refine lv_iload hx hb d_m_kind_226 (lv_at hl 8 rfl) ?_
    obtain ⟨g31, hF⟩ := f_gd_some hF
    refine hw_iast (k := 33) (i := 0) (n := 1) hx hb hK hLi hW hS (by decide) rfl (by omega) rfl g31 d_m_kind_228 (fun H locs hW hS => ?_)
    refine lv_iload hx hb d_m_kind_229 (lv_at hl 9 rfl) ?_
    exact hw_iret hx hb hr hlk (vp_nar_int _) hW hS (by omega) (by omega) d_m_kind_231 hF
  have B128 : ∀  (x1 : Int32) (x2 : Int32) (x3 : Int32) (x4 : Int32) (x5 : Int32) (x6 : Int32) (x7 : Int32) (y1 : Int32) (z : fST), b_m_kind_128  x1 x2 x3 x4 x5 x6 x7 y1 z = some (r, z') →  f_B p l e R s m args below meth c L Ar D b0 11 0 (f_E below args s L Ar D b0 0 (.inl (some (.int r))) z') 0 128 [(0, .ref (L 30 0)), (1, .int x1), (2, .int x2), (3, .int x3), (4, .int x4), (5, .int x5), (6, .int x6), (7, .int x7)] [.int y1, .ref (L 30 0)] z := by
    intro  x1 x2 x3 x4 x5 x6 x7 y1 z hF  H locs ls cells slots hW hS hl hc hs
    unfold b_m_kind_128 at hF
    refine lv_iconst (v := 2) hx hb d_m_kind_128 (by decide) ?_
    obtain ⟨v21, z21, hc21, hF⟩ := f_bd_some hF
    refine hw_VR (k := 30) (i := 0) (nk := 1) (As := [.int y1, .int 2]) (rest := []) hx hb hml hown hts (c_m_fails_ok l hl0 hLi y1 2  _ _ _ hc21) st_m_59 (by decide) rfl (by omega) rfl rfl hK hZ hsz hS hW rfl hl.1 (Nat.le_of_ble_eq_true rfl) d_m_kind_129 (by omega) (by omega) (by omega) (by omega) (fun H locs hW hS => ?_)
    refine lv_if_eq (tgt := 137) hx hb d_m_kind_132 (by decide) (fun h22 => ?_) (fun h22 => ?_)
    · have hF := (if_pos h22).symm.trans hF
      refine lv_aload_n hx hb d_m_kind_137 rfl (lv_at hl 0 rfl) ?_
      refine lv_iload_n hx hb d_m_kind_138 rfl (lv_at hl 2 rfl) ?_
      obtain ⟨v23, z23, hc23, hF⟩ := f_bd_some hF
      refine hw_VR (k := 30) (i := 0) (nk := 1) (As := [.int x2]) (rest := []) hx hb hml hown hts (c_m_kindOf_ok l hl0 hLi x2  _ _ _ hc23) st_m_68 (by decide) rfl (by omega) rfl rfl hK hZ hsz hS hW rfl hl.1 (Nat.le_of_ble_eq_true rfl) d_m_kind_139 (by omega) (by omega) (by omega) (by omega) (fun H locs hW hS => ?_)
      refine lv_istore (lv' := [(9, .int v23), (0, .ref (L 30 0)), (1, .int x1), (2, .int x2), (3, .int x3), (4, .int x4), (5, .int x5), (6, .int x6), (7, .int x7)]) hx hb d_m_kind_142 hl (by decide) rfl (fun ls hl => ?_)
      refine lv_iload hx hb d_m_kind_144 (lv_at hl 0 rfl) ?_
      refine lv_iconst (v := (-1)) hx hb d_m_kind_146 (by decide) ?_
      refine lv_icmp_eq (tgt := 161) hx hb d_m_kind_147 (by decide) (fun h24 => ?_) (fun h24 => ?_)
      · have hF := (if_pos h24).symm.trans hF
        exact B161 x1 x2 x3 x4 x5 x6 x7 v23 z23 hF _ _ _ _ _ hW hS (lv_sub hl [1, 2, 3, 4, 5, 6, 7, 8, 0] rfl) (by omega) (by omega)
      · have hF := (if_neg h24).symm.trans hF
        refine lv_aload_n hx hb d_m_kind_150 rfl (lv_at hl 1 rfl) ?_
        refine hw_get (k := 30) (i := 0) (n := 1) (j := 2) (v := .ref (L 33 0)) hx hb hts hown hK hW fl_m_16 rfl (by omega) rfl d_m_kind_151 ?_
        refine lv_bipush (v := 6) hx hb d_m_kind_154 (by decide) ?_
        refine lv_iload hx hb d_m_kind_156 (lv_at hl 0 rfl) ?_
        refine lv_imul hx hb d_m_kind_158 ?_
        refine lv_iconst (v := 0) hx hb d_m_kind_159 (by decide) ?_
        obtain ⟨g25, hF⟩ := f_gd_some hF
        refine hw_iast (k := 33) (i := 0) (n := 1) hx hb hK hLi hW hS (by decide) rfl (by omega) rfl g25 d_m_kind_160 (fun H locs hW hS => ?_)
        exact B161 x1 x2 x3 x4 x5 x6 x7 v23 (f_pI z23 33 0 (f_ix (6 * v23)) 0) hF _ _ _ _ _ hW hS (lv_sub hl [1, 2, 3, 4, 5, 6, 7, 8, 0] rfl) (by omega) (by omega)
    · have hF := (if_neg h22).symm.trans hF
      refine lv_iconst (v := 0) hx hb d_m_kind_135 (by decide) ?_
      exact hw_iret hx hb hr hlk (vp_nar_int _) hW hS (by omega) (by omega) d_m_kind_136 hF
  have B110 : ∀  (x1 : Int32) (x2 : Int32) (x3 : Int32) (x4 : Int32) (x5 : Int32) (x6 : Int32) (x7 : Int32) (x8 : Int32) (y1 : Int32) (z : fST), b_m_kind_110  x1 x2 x3 x4 x5 x6 x7 x8 y1 z = some (r, z') →  f_B p l e R s m args below meth c L Ar D b0 11 0 (f_E below args s L Ar D b0 0 (.inl (some (.int r))) z') 0 110 [(0, .ref (L 30 0)), (1, .int x1), (2, .int x2), (3, .int x3), (4, .int x4), (5, .int x5), (6, .int x6), (7, .int x7), (8, .int x8)] [.int y1, .ref (L 30 0)] z := by
    intro  x1 x2 x3 x4 x5 x6 x7 x8 y1 z hF  H locs ls cells slots hW hS hl hc hs
    unfold b_m_kind_110 at hF
    refine lv_iconst (v := 1) hx hb d_m_kind_110 (by decide) ?_
    obtain ⟨v18, z18, hc18, hF⟩ := f_bd_some hF
    refine hw_VR (k := 30) (i := 0) (nk := 1) (As := [.int y1, .int 1]) (rest := []) hx hb hml hown hts (c_m_fails_ok l hl0 hLi y1 1  _ _ _ hc18) st_m_59 (by decide) rfl (by omega) rfl rfl hK hZ hsz hS hW rfl hl.1 (Nat.le_of_ble_eq_true rfl) d_m_kind_111 (by omega) (by omega) (by omega) (by omega) (fun H locs hW hS => ?_)
    refine lv_if_ne (tgt := 135) hx hb d_m_kind_114 (by decide) (fun h19 => ?_) (fun h19 => ?_)
    · have hF := (if_neg h19).symm.trans hF
      refine lv_iconst (v := 0) hx hb d_m_kind_135 (by decide) ?_
      exact hw_iret hx hb hr hlk (vp_nar_int _) hW hS (by omega) (by omega) d_m_kind_136 hF
    · have hF := (if_pos h19).symm.trans hF
      refine lv_aload_n hx hb d_m_kind_117 rfl (lv_at hl 0 rfl) ?_
      refine lv_iload hx hb d_m_kind_118 (lv_at hl 8 rfl) ?_
      refine lv_if_ne (tgt := 127) hx hb d_m_kind_120 (by decide) (fun h20 => ?_) (fun h20 => ?_)
      · have hF := (if_neg h20).symm.trans hF
        refine lv_iconst (v := 0) hx hb d_m_kind_127 (by decide) ?_
        exact B128 x1 x2 x3 x4 x5 x6 x7 0 z18 hF _ _ _ _ _ hW hS (lv_sub hl [0, 1, 2, 3, 4, 5, 6, 7] rfl) (by omega) (by omega)
      · have hF := (if_pos h20).symm.trans hF
        refine lv_iconst (v := 1) hx hb d_m_kind_123 (by decide) ?_
        refine lv_goto (tgt := 128) hx hb d_m_kind_124 (by decide) ?_
        exact B128 x1 x2 x3 x4 x5 x6 x7 1 z18 hF _ _ _ _ _ hW hS (lv_sub hl [0, 1, 2, 3, 4, 5, 6, 7] rfl) (by omega) (by omega)
  have B105 : ∀  (x1 : Int32) (x2 : Int32) (x3 : Int32) (x4 : Int32) (x5 : Int32) (x6 : Int32) (x7 : Int32) (x8 : Int32) (z : fST), b_m_kind_105  x1 x2 x3 x4 x5 x6 x7 x8 z = some (r, z') →  f_B p l e R s m args below meth c L Ar D b0 11 0 (f_E below args s L Ar D b0 0 (.inl (some (.int r))) z') 0 105 [(0, .ref (L 30 0)), (1, .int x1), (2, .int x2), (3, .int x3), (4, .int x4), (5, .int x5), (6, .int x6), (7, .int x7), (8, .int x8)] [.ref (L 30 0)] z := by
    intro  x1 x2 x3 x4 x5 x6 x7 x8 z hF  H locs ls cells slots hW hS hl hc hs
    unfold b_m_kind_105 at hF
    refine lv_iconst (v := 1) hx hb d_m_kind_105 (by decide) ?_
    refine lv_goto (tgt := 110) hx hb d_m_kind_106 (by decide) ?_
    exact B110 x1 x2 x3 x4 x5 x6 x7 x8 1 z hF _ _ _ _ _ hW hS (lv_sub hl [0, 1, 2, 3, 4, 5, 6, 7, 8] rfl) (by omega) (by omega)
  have B88 : ∀  (x1 : Int32) (x2 : Int32) (x3 : Int32) (x4 : Int32) (x5 : Int32) (x6 : Int32) (x7 : Int32) (y0 : Int32) (z : fST), b_m_kind_88  x1 x2 x3 x4 x5 x6 x7 y0 z = some (r, z') →  f_B p l e R s m args below meth c L Ar D b0 11 0 (f_E below args s L Ar D b0 0 (.inl (some (.int r))) z') 0 88 [(0, .ref (L 30 0)), (1, .int x1), (2, .int x2), (3, .int x3), (4, .int x4), (5, .int x5), (6, .int x6), (7, .int x7)] [.int y0] z := by
    intro  x1 x2 x3 x4 x5 x6 x7 y0 z hF  H locs ls cells slots hW hS hl hc hs
    unfold b_m_kind_88 at hF
    refine lv_istore (lv' := [(8, .int y0), (0, .ref (L 30 0)), (1, .int x1), (2, .int x2), (3, .int x3), (4, .int x4), (5, .int x5), (6, .int x6), (7, .int x7)]) hx hb d_m_kind_88 hl (by decide) rfl (fun ls hl => ?_)
    refine lv_aload_n hx hb d_m_kind_90 rfl (lv_at hl 1 rfl) ?_
    refine lv_aload_n hx hb d_m_kind_91 rfl (lv_at hl 1 rfl) ?_
    refine hw_get (k := 30) (i := 0) (n := 1) (j := 17) (v := .int (f_gI z 30 0 17)) hx hb hts hown hK hW fl_m_55 rfl (by omega) rfl d_m_kind_92 ?_
    refine lv_if_ne (tgt := 105) hx hb d_m_kind_95 (by decide) (fun h16 => ?_) (fun h16 => ?_)
    · have hF := (if_neg h16).symm.trans hF
      exact B105 x1 x2 x3 x4 x5 x6 x7 y0 z hF _ _ _ _ _ hW hS (lv_sub hl [1, 2, 3, 4, 5, 6, 7, 8, 0] rfl) (by omega) (by omega)
    · have hF := (if_pos h16).symm.trans hF
      refine lv_aload_n hx hb d_m_kind_98 rfl (lv_at hl 1 rfl) ?_
      refine hw_get (k := 30) (i := 0) (n := 1) (j := 4) (v := .int (f_gI z 30 0 4)) hx hb hts hown hK hW fl_m_52 rfl (by omega) rfl d_m_kind_99 ?_
      refine lv_if_le (tgt := 109) hx hb d_m_kind_102 (by decide) (fun h17 => ?_) (fun h17 => ?_)
      · have hF := (if_pos h17).symm.trans hF
        refine lv_iconst (v := 0) hx hb d_m_kind_109 (by decide) ?_
        exact B110 x1 x2 x3 x4 x5 x6 x7 y0 0 z hF _ _ _ _ _ hW hS (lv_sub hl [1, 2, 3, 4, 5, 6, 7, 8, 0] rfl) (by omega) (by omega)
      · have hF := (if_neg h17).symm.trans hF
        exact B105 x1 x2 x3 x4 x5 x6 x7 y0 z hF _ _ _ _ _ hW hS (lv_sub hl [1, 2, 3, 4, 5, 6, 7, 8, 0] rfl) (by omega) (by omega)
  have B87 : ∀  (x1 : Int32) (x2 : Int32) (x3 : Int32) (x4 : Int32) (x5 : Int32) (x6 : Int32) (x7 : Int32) (z : fST), b_m_kind_87  x1 x2 x3 x4 x5 x6 x7 z = some (r, z') →  f_B p l e R s m args below meth c L Ar D b0 11 0 (f_E below args s L Ar D b0 0 (.inl (some (.int r))) z') 0 87 [(0, .ref (L 30 0)), (1, .int x1), (2, .int x2), (3, .int x3), (4, .int x4), (5, .int x5), (6, .int x6), (7, .int x7)] [] z := by
    intro  x1 x2 x3 x4 x5 x6 x7 z hF  H locs ls cells slots hW hS hl hc hs
    unfold b_m_kind_87 at hF
    refine lv_iconst (v := 0) hx hb d_m_kind_87 (by decide) ?_
    exact B88 x1 x2 x3 x4 x5 x6 x7 0 z hF _ _ _ _ _ hW hS (lv_sub hl [0, 1, 2, 3, 4, 5, 6, 7] rfl) (by omega) (by omega)
  intro H locs ls cells slots hW hS hl hc hs
  have hl : lv_has ls 11 [(0, .ref (L 30 0)), (1, .int a1), (2, .int a2), (3, .int a3), (4, .int a4), (5, .int a5), (6, .int a6), (7, .int a7)] := hl
  unfold F_m_kind at hF
  refine lv_iload_n hx hb d_m_kind_0 rfl (lv_at hl 1 rfl) ?_
  refine lv_iconst (v := 0) hx hb d_m_kind_1 (by decide) ?_
  refine lv_bipush (v := 39) hx hb d_m_kind_2 (by decide) ?_
  obtain ⟨v1, z1, hc1, hF⟩ := f_bd_some hF
  refine hw_SR (As := [.int a1, .int 0, .int 39]) (rest := []) hx hb hml hown hts (c_m_within_ok l hl0 hLi a1 0 39  _ _ _ hc1) st_m_63 hK hZ hsz hS hW rfl hl.1 (Nat.le_of_ble_eq_true rfl) d_m_kind_4 (by omega) (by omega) (by omega) (by omega) (fun H locs hW hS => ?_)
  refine lv_if_eq (tgt := 87) hx hb d_m_kind_7 (by decide) (fun h2 => ?_) (fun h2 => ?_)
  · have hF := (if_pos h2).symm.trans hF
    exact B87 a1 a2 a3 a4 a5 a6 a7 z1 hF _ _ _ _ _ hW hS (lv_sub hl [0, 1, 2, 3, 4, 5, 6, 7] rfl) (by omega) (by omega)
  · have hF := (if_neg h2).symm.trans hF
    refine lv_iload_n hx hb d_m_kind_10 rfl (lv_at hl 2 rfl) ?_
    refine lv_iconst (v := 1) hx hb d_m_kind_11 (by decide) ?_
    refine lv_ldc (v := 999999) hx hb hown (hts _ (wt_in (List.mem_of_getElem? (i := 815) (by decide +kernel)) rfl)) d_m_kind_12 ?_
    obtain ⟨v3, z3, hc3, hF⟩ := f_bd_some hF
    refine hw_SR (As := [.int a2, .int 1, .int 999999]) (rest := []) hx hb hml hown hts (c_m_within_ok l hl0 hLi a2 1 999999  _ _ _ hc3) st_m_63 hK hZ hsz hS hW rfl hl.1 (Nat.le_of_ble_eq_true rfl) d_m_kind_14 (by omega) (by omega) (by omega) (by omega) (fun H locs hW hS => ?_)
    refine lv_if_eq (tgt := 87) hx hb d_m_kind_17 (by decide) (fun h4 => ?_) (fun h4 => ?_)
    · have hF := (if_pos h4).symm.trans hF
      exact B87 a1 a2 a3 a4 a5 a6 a7 z3 hF _ _ _ _ _ hW hS (lv_sub hl [0, 1, 2, 3, 4, 5, 6, 7] rfl) (by omega) (by omega)
    · have hF := (if_neg h4).symm.trans hF
      refine lv_iload_n hx hb d_m_kind_20 rfl (lv_at hl 3 rfl) ?_
      refine lv_iconst (v := 1) hx hb d_m_kind_21 (by decide) ?_
      refine lv_sipush (v := 500) hx hb d_m_kind_22 (by decide) ?_
      obtain ⟨v5, z5, hc5, hF⟩ := f_bd_some hF
      refine hw_SR (As := [.int a3, .int 1, .int 500]) (rest := []) hx hb hml hown hts (c_m_within_ok l hl0 hLi a3 1 500  _ _ _ hc5) st_m_63 hK hZ hsz hS hW rfl hl.1 (Nat.le_of_ble_eq_true rfl) d_m_kind_25 (by omega) (by omega) (by omega) (by omega) (fun H locs hW hS => ?_)
      refine lv_if_eq (tgt := 87) hx hb d_m_kind_28 (by decide) (fun h6 => ?_) (fun h6 => ?_)
      · have hF := (if_pos h6).symm.trans hF
        exact B87 a1 a2 a3 a4 a5 a6 a7 z5 hF _ _ _ _ _ hW hS (lv_sub hl [0, 1, 2, 3, 4, 5, 6, 7] rfl) (by omega) (by omega)
      · have hF := (if_neg h6).symm.trans hF
        refine lv_iload hx hb d_m_kind_31 (lv_at hl 4 rfl) ?_
        refine lv_iconst (v := 0) hx hb d_m_kind_33 (by decide) ?_
        refine lv_iconst (v := 2) hx hb d_m_kind_34 (by decide) ?_
        obtain ⟨v7, z7, hc7, hF⟩ := f_bd_some hF
        refine hw_SR (As := [.int a4, .int 0, .int 2]) (rest := []) hx hb hml hown hts (c_m_within_ok l hl0 hLi a4 0 2  _ _ _ hc7) st_m_63 hK hZ hsz hS hW rfl hl.1 (Nat.le_of_ble_eq_true rfl) d_m_kind_35 (by omega) (by omega) (by omega) (by omega) (fun H locs hW hS => ?_)
        refine lv_if_eq (tgt := 87) hx hb d_m_kind_38 (by decide) (fun h8 => ?_) (fun h8 => ?_)
        · have hF := (if_pos h8).symm.trans hF
          exact B87 a1 a2 a3 a4 a5 a6 a7 z7 hF _ _ _ _ _ hW hS (lv_sub hl [0, 1, 2, 3, 4, 5, 6, 7] rfl) (by omega) (by omega)
        · have hF := (if_neg h8).symm.trans hF
          refine lv_iload hx hb d_m_kind_41 (lv_at hl 5 rfl) ?_
          refine lv_iconst (v := 0) hx hb d_m_kind_43 (by decide) ?_
          refine lv_sipush (v := 5000) hx hb d_m_kind_44 (by decide) ?_
          obtain ⟨v9, z9, hc9, hF⟩ := f_bd_some hF
          refine hw_SR (As := [.int a5, .int 0, .int 5000]) (rest := []) hx hb hml hown hts (c_m_within_ok l hl0 hLi a5 0 5000  _ _ _ hc9) st_m_63 hK hZ hsz hS hW rfl hl.1 (Nat.le_of_ble_eq_true rfl) d_m_kind_47 (by omega) (by omega) (by omega) (by omega) (fun H locs hW hS => ?_)
          refine lv_if_eq (tgt := 87) hx hb d_m_kind_50 (by decide) (fun h10 => ?_) (fun h10 => ?_)
          · have hF := (if_pos h10).symm.trans hF
            exact B87 a1 a2 a3 a4 a5 a6 a7 z9 hF _ _ _ _ _ hW hS (lv_sub hl [0, 1, 2, 3, 4, 5, 6, 7] rfl) (by omega) (by omega)
          · have hF := (if_neg h10).symm.trans hF
            refine lv_iload hx hb d_m_kind_53 (lv_at hl 6 rfl) ?_
            refine lv_iconst (v := 0) hx hb d_m_kind_55 (by decide) ?_
            refine lv_sipush (v := 5000) hx hb d_m_kind_56 (by decide) ?_
            obtain ⟨v11, z11, hc11, hF⟩ := f_bd_some hF
            refine hw_SR (As := [.int a6, .int 0, .int 5000]) (rest := []) hx hb hml hown hts (c_m_within_ok l hl0 hLi a6 0 5000  _ _ _ hc11) st_m_63 hK hZ hsz hS hW rfl hl.1 (Nat.le_of_ble_eq_true rfl) d_m_kind_59 (by omega) (by omega) (by omega) (by omega) (fun H locs hW hS => ?_)
            refine lv_if_eq (tgt := 87) hx hb d_m_kind_62 (by decide) (fun h12 => ?_) (fun h12 => ?_)
            · have hF := (if_pos h12).symm.trans hF
              exact B87 a1 a2 a3 a4 a5 a6 a7 z11 hF _ _ _ _ _ hW hS (lv_sub hl [0, 1, 2, 3, 4, 5, 6, 7] rfl) (by omega) (by omega)
            · have hF := (if_neg h12).symm.trans hF
              refine lv_iload hx hb d_m_kind_65 (lv_at hl 5 rfl) ?_
              refine lv_iload hx hb d_m_kind_67 (lv_at hl 6 rfl) ?_
              refine lv_icmp_gt (tgt := 87) hx hb d_m_kind_69 (by decide) (fun h13 => ?_) (fun h13 => ?_)
              · have hF := (if_pos h13).symm.trans hF
                exact B87 a1 a2 a3 a4 a5 a6 a7 z11 hF _ _ _ _ _ hW hS (lv_sub hl [0, 1, 2, 3, 4, 5, 6, 7] rfl) (by omega) (by omega)
              · have hF := (if_neg h13).symm.trans hF
                refine lv_iload hx hb d_m_kind_72 (lv_at hl 7 rfl) ?_
                refine lv_iconst (v := 0) hx hb d_m_kind_74 (by decide) ?_
                refine lv_bipush (v := 7) hx hb d_m_kind_75 (by decide) ?_
                obtain ⟨v14, z14, hc14, hF⟩ := f_bd_some hF
                refine hw_SR (As := [.int a7, .int 0, .int 7]) (rest := []) hx hb hml hown hts (c_m_within_ok l hl0 hLi a7 0 7  _ _ _ hc14) st_m_63 hK hZ hsz hS hW rfl hl.1 (Nat.le_of_ble_eq_true rfl) d_m_kind_77 (by omega) (by omega) (by omega) (by omega) (fun H locs hW hS => ?_)
                refine lv_if_eq (tgt := 87) hx hb d_m_kind_80 (by decide) (fun h15 => ?_) (fun h15 => ?_)
                · have hF := (if_pos h15).symm.trans hF
                  exact B87 a1 a2 a3 a4 a5 a6 a7 z14 hF _ _ _ _ _ hW hS (lv_sub hl [0, 1, 2, 3, 4, 5, 6, 7] rfl) (by omega) (by omega)
                · have hF := (if_neg h15).symm.trans hF
                  refine lv_iconst (v := 1) hx hb d_m_kind_83 (by decide) ?_
                  refine lv_goto (tgt := 88) hx hb d_m_kind_84 (by decide) ?_
                  exact B88 a1 a2 a3 a4 a5 a6 a7 1 z14 hF _ _ _ _ _ hW hS (lv_sub hl [0, 1, 2, 3, 4, 5, 6, 7] rfl) (by omega) (by omega)
end
