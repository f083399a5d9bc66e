section
-- ===== PART A: goes FIRST, ahead of the names: the tables' words, and 'selects' of the private methods out of them =====
/-- a private method of a class that the tables say can be made, by its rows of tables_1 -/
def lw_okq (q : MethodName × Nat) : Prop := (q.1.cls ≠ "java/lang/invoke/MethodHandle" ∧ q.1.cls ≠ "java/lang/invoke/VarHandle") ∧ Cond.instantiable q.1.cls q.2 ∈ tables_1 ∧ Cond.privateMethod q.1 ∈ tables_1 ∧ Cond.instanceMethod q.1 ∈ tables_1
theorem lw_p0 : lw_okq (⟨"BottleReturn", "payUnpaid", "()V"⟩, 12) := ⟨⟨by decide +kernel, by decide +kernel⟩, List.mem_of_getElem? (i := 19) (by decide +kernel), List.mem_of_getElem? (i := 273) (by decide +kernel), List.mem_of_getElem? (i := 274) (by decide +kernel)⟩
theorem lw_p1 : lw_okq (⟨"BottleReturn", "pay", "(LBottleReturn$Container;)V"⟩, 12) := ⟨⟨by decide +kernel, by decide +kernel⟩, List.mem_of_getElem? (i := 19) (by decide +kernel), List.mem_of_getElem? (i := 277) (by decide +kernel), List.mem_of_getElem? (i := 278) (by decide +kernel)⟩
theorem lw_p2 : lw_okq (⟨"BottleReturn", "binWaiting", "()V"⟩, 12) := ⟨⟨by decide +kernel, by decide +kernel⟩, List.mem_of_getElem? (i := 19) (by decide +kernel), List.mem_of_getElem? (i := 285) (by decide +kernel), List.mem_of_getElem? (i := 286) (by decide +kernel)⟩
theorem lw_p3 : lw_okq (⟨"BottleReturn", "intoBin", "(I)Z"⟩, 12) := ⟨⟨by decide +kernel, by decide +kernel⟩, List.mem_of_getElem? (i := 19) (by decide +kernel), List.mem_of_getElem? (i := 293) (by decide +kernel), List.mem_of_getElem? (i := 294) (by decide +kernel)⟩
theorem lw_p4 : lw_okq (⟨"BottleReturn", "requireOn", "()V"⟩, 12) := ⟨⟨by decide +kernel, by decide +kernel⟩, List.mem_of_getElem? (i := 19) (by decide +kernel), List.mem_of_getElem? (i := 317) (by decide +kernel), List.mem_of_getElem? (i := 318) (by decide +kernel)⟩
theorem lw_p5 : lw_okq (⟨"java/lang/Throwable", "fillInStackTrace", "(I)Ljava/lang/Throwable;"⟩, 6) := ⟨⟨by decide +kernel, by decide +kernel⟩, List.mem_of_getElem? (i := 358) (by decide +kernel), List.mem_of_getElem? (i := 356) (by decide +kernel), List.mem_of_getElem? (i := 357) (by decide +kernel)⟩
theorem lw_p6 : lw_okq (⟨"BottleReturn", "requireEmptyBelt", "()V"⟩, 12) := ⟨⟨by decide +kernel, by decide +kernel⟩, List.mem_of_getElem? (i := 19) (by decide +kernel), List.mem_of_getElem? (i := 415) (by decide +kernel), List.mem_of_getElem? (i := 416) (by decide +kernel)⟩
theorem lw_p7 : lw_okq (⟨"BottleReturn", "stepForward", "()V"⟩, 12) := ⟨⟨by decide +kernel, by decide +kernel⟩, List.mem_of_getElem? (i := 19) (by decide +kernel), List.mem_of_getElem? (i := 498) (by decide +kernel), List.mem_of_getElem? (i := 499) (by decide +kernel)⟩
theorem lw_p8 : lw_okq (⟨"BottleReturn", "leavesOnArrival", "(I)Z"⟩, 12) := ⟨⟨by decide +kernel, by decide +kernel⟩, List.mem_of_getElem? (i := 19) (by decide +kernel), List.mem_of_getElem? (i := 506) (by decide +kernel), List.mem_of_getElem? (i := 507) (by decide +kernel)⟩
theorem lw_p9 : lw_okq (⟨"BottleReturn", "judge", "(LBottleReturn$Container;)V"⟩, 12) := ⟨⟨by decide +kernel, by decide +kernel⟩, List.mem_of_getElem? (i := 19) (by decide +kernel), List.mem_of_getElem? (i := 510) (by decide +kernel), List.mem_of_getElem? (i := 511) (by decide +kernel)⟩
theorem lw_p10 : lw_okq (⟨"BottleReturn", "judgementByReadings", "(LBottleReturn$Container;I)I"⟩, 12) := ⟨⟨by decide +kernel, by decide +kernel⟩, List.mem_of_getElem? (i := 19) (by decide +kernel), List.mem_of_getElem? (i := 519) (by decide +kernel), List.mem_of_getElem? (i := 520) (by decide +kernel)⟩
theorem lw_p11 : lw_okq (⟨"BottleReturn", "judgementByState", "(LBottleReturn$Container;I)I"⟩, 12) := ⟨⟨by decide +kernel, by decide +kernel⟩, List.mem_of_getElem? (i := 19) (by decide +kernel), List.mem_of_getElem? (i := 540) (by decide +kernel), List.mem_of_getElem? (i := 541) (by decide +kernel)⟩
theorem lw_p12 : lw_okq (⟨"BottleReturn", "acceptedFor", "(I)I"⟩, 12) := ⟨⟨by decide +kernel, by decide +kernel⟩, List.mem_of_getElem? (i := 19) (by decide +kernel), List.mem_of_getElem? (i := 544) (by decide +kernel), List.mem_of_getElem? (i := 545) (by decide +kernel)⟩
theorem lw_p13 : lw_okq (⟨"BottleReturn", "isSuspicious", "()Z"⟩, 12) := ⟨⟨by decide +kernel, by decide +kernel⟩, List.mem_of_getElem? (i := 19) (by decide +kernel), List.mem_of_getElem? (i := 552) (by decide +kernel), List.mem_of_getElem? (i := 553) (by decide +kernel)⟩
theorem lw_p14 : lw_okq (⟨"BottleReturnModel", "fails", "(ZI)Z"⟩, 26) := ⟨⟨by decide +kernel, by decide +kernel⟩, List.mem_of_getElem? (i := 712) (by decide +kernel), List.mem_of_getElem? (i := 805) (by decide +kernel), List.mem_of_getElem? (i := 806) (by decide +kernel)⟩
theorem lw_p15 : lw_okq (⟨"BottleReturnModel", "kindOf", "(I)I"⟩, 26) := ⟨⟨by decide +kernel, by decide +kernel⟩, List.mem_of_getElem? (i := 712) (by decide +kernel), List.mem_of_getElem? (i := 817) (by decide +kernel), List.mem_of_getElem? (i := 818) (by decide +kernel)⟩
def lw_privs_1 : List (MethodName × Nat) := [(⟨"BottleReturn", "payUnpaid", "()V"⟩, 12), (⟨"BottleReturn", "pay", "(LBottleReturn$Container;)V"⟩, 12), (⟨"BottleReturn", "binWaiting", "()V"⟩, 12), (⟨"BottleReturn", "intoBin", "(I)Z"⟩, 12), (⟨"BottleReturn", "requireOn", "()V"⟩, 12), (⟨"java/lang/Throwable", "fillInStackTrace", "(I)Ljava/lang/Throwable;"⟩, 6), (⟨"BottleReturn", "requireEmptyBelt", "()V"⟩, 12), (⟨"BottleReturn", "stepForward", "()V"⟩, 12), (⟨"BottleReturn", "leavesOnArrival", "(I)Z"⟩, 12), (⟨"BottleReturn", "judge", "(LBottleReturn$Container;)V"⟩, 12), (⟨"BottleReturn", "judgementByReadings", "(LBottleReturn$Container;I)I"⟩, 12), (⟨"BottleReturn", "judgementByState", "(LBottleReturn$Container;I)I"⟩, 12), (⟨"BottleReturn", "acceptedFor", "(I)I"⟩, 12), (⟨"BottleReturn", "isSuspicious", "()Z"⟩, 12), (⟨"BottleReturnModel", "fails", "(ZI)Z"⟩, 26), (⟨"BottleReturnModel", "kindOf", "(I)I"⟩, 26)]
theorem lw_r1 : ∀ q ∈ lw_privs_1, lw_okq q := List.forall_mem_cons.mpr ⟨lw_p0, List.forall_mem_cons.mpr ⟨lw_p1, List.forall_mem_cons.mpr ⟨lw_p2, List.forall_mem_cons.mpr ⟨lw_p3, List.forall_mem_cons.mpr ⟨lw_p4, List.forall_mem_cons.mpr ⟨lw_p5, List.forall_mem_cons.mpr ⟨lw_p6, List.forall_mem_cons.mpr ⟨lw_p7, List.forall_mem_cons.mpr ⟨lw_p8, List.forall_mem_cons.mpr ⟨lw_p9, List.forall_mem_cons.mpr ⟨lw_p10, List.forall_mem_cons.mpr ⟨lw_p11, List.forall_mem_cons.mpr ⟨lw_p12, List.forall_mem_cons.mpr ⟨lw_p13, List.forall_mem_cons.mpr ⟨lw_p14, List.forall_mem_cons.mpr ⟨lw_p15, fun _ h => absurd h List.not_mem_nil⟩⟩⟩⟩⟩⟩⟩⟩⟩⟩⟩⟩⟩⟩⟩⟩
theorem lw_p16 : lw_okq (⟨"BottleReturnModel", "rear", "(I)I"⟩, 26) := ⟨⟨by decide +kernel, by decide +kernel⟩, List.mem_of_getElem? (i := 712) (by decide +kernel), List.mem_of_getElem? (i := 825) (by decide +kernel), List.mem_of_getElem? (i := 826) (by decide +kernel)⟩
theorem lw_p17 : lw_okq (⟨"BottleReturnModel", "get", "(II)I"⟩, 26) := ⟨⟨by decide +kernel, by decide +kernel⟩, List.mem_of_getElem? (i := 712) (by decide +kernel), List.mem_of_getElem? (i := 829) (by decide +kernel), List.mem_of_getElem? (i := 830) (by decide +kernel)⟩
theorem lw_p18 : lw_okq (⟨"BottleReturnModel", "put", "(III)V"⟩, 26) := ⟨⟨by decide +kernel, by decide +kernel⟩, List.mem_of_getElem? (i := 712) (by decide +kernel), List.mem_of_getElem? (i := 833) (by decide +kernel), List.mem_of_getElem? (i := 834) (by decide +kernel)⟩
theorem lw_p19 : lw_okq (⟨"BottleReturnModel", "over", "(I)I"⟩, 26) := ⟨⟨by decide +kernel, by decide +kernel⟩, List.mem_of_getElem? (i := 712) (by decide +kernel), List.mem_of_getElem? (i := 841) (by decide +kernel), List.mem_of_getElem? (i := 842) (by decide +kernel)⟩
theorem lw_p20 : lw_okq (⟨"BottleReturnModel", "isBlocked", "()Z"⟩, 26) := ⟨⟨by decide +kernel, by decide +kernel⟩, List.mem_of_getElem? (i := 712) (by decide +kernel), List.mem_of_getElem? (i := 857) (by decide +kernel), List.mem_of_getElem? (i := 858) (by decide +kernel)⟩
theorem lw_p21 : lw_okq (⟨"BottleReturnModel", "judge", "(I)V"⟩, 26) := ⟨⟨by decide +kernel, by decide +kernel⟩, List.mem_of_getElem? (i := 712) (by decide +kernel), List.mem_of_getElem? (i := 861) (by decide +kernel), List.mem_of_getElem? (i := 862) (by decide +kernel)⟩
theorem lw_p22 : lw_okq (⟨"BottleReturnModel", "against", "(I)I"⟩, 26) := ⟨⟨by decide +kernel, by decide +kernel⟩, List.mem_of_getElem? (i := 712) (by decide +kernel), List.mem_of_getElem? (i := 865) (by decide +kernel), List.mem_of_getElem? (i := 866) (by decide +kernel)⟩
theorem lw_p23 : lw_okq (⟨"BottleReturnModel", "isSuspicious", "()Z"⟩, 26) := ⟨⟨by decide +kernel, by decide +kernel⟩, List.mem_of_getElem? (i := 712) (by decide +kernel), List.mem_of_getElem? (i := 869) (by decide +kernel), List.mem_of_getElem? (i := 870) (by decide +kernel)⟩
theorem lw_p24 : lw_okq (⟨"BottleReturnModel", "writes", "()Z"⟩, 26) := ⟨⟨by decide +kernel, by decide +kernel⟩, List.mem_of_getElem? (i := 712) (by decide +kernel), List.mem_of_getElem? (i := 873) (by decide +kernel), List.mem_of_getElem? (i := 874) (by decide +kernel)⟩
theorem lw_p25 : lw_okq (⟨"BottleReturnModel", "pay", "(I)V"⟩, 26) := ⟨⟨by decide +kernel, by decide +kernel⟩, List.mem_of_getElem? (i := 712) (by decide +kernel), List.mem_of_getElem? (i := 877) (by decide +kernel), List.mem_of_getElem? (i := 878) (by decide +kernel)⟩
theorem lw_p26 : lw_okq (⟨"BottleReturnModel", "drop", "(I)Z"⟩, 26) := ⟨⟨by decide +kernel, by decide +kernel⟩, List.mem_of_getElem? (i := 712) (by decide +kernel), List.mem_of_getElem? (i := 881) (by decide +kernel), List.mem_of_getElem? (i := 882) (by decide +kernel)⟩
theorem lw_p27 : lw_okq (⟨"BottleReturnModel", "remove", "(I)V"⟩, 26) := ⟨⟨by decide +kernel, by decide +kernel⟩, List.mem_of_getElem? (i := 712) (by decide +kernel), List.mem_of_getElem? (i := 885) (by decide +kernel), List.mem_of_getElem? (i := 886) (by decide +kernel)⟩
theorem lw_p28 : lw_okq (⟨"BottleReturnModel", "forget", "(I)V"⟩, 26) := ⟨⟨by decide +kernel, by decide +kernel⟩, List.mem_of_getElem? (i := 712) (by decide +kernel), List.mem_of_getElem? (i := 893) (by decide +kernel), List.mem_of_getElem? (i := 894) (by decide +kernel)⟩
theorem lw_p29 : lw_okq (⟨"BottleReturnModel", "voucherAt", "(I)I"⟩, 26) := ⟨⟨by decide +kernel, by decide +kernel⟩, List.mem_of_getElem? (i := 712) (by decide +kernel), List.mem_of_getElem? (i := 909) (by decide +kernel), List.mem_of_getElem? (i := 910) (by decide +kernel)⟩
theorem lw_p30 : lw_okq (⟨"BottleReturnModel", "endOf", "(I)I"⟩, 26) := ⟨⟨by decide +kernel, by decide +kernel⟩, List.mem_of_getElem? (i := 712) (by decide +kernel), List.mem_of_getElem? (i := 945) (by decide +kernel), List.mem_of_getElem? (i := 946) (by decide +kernel)⟩
theorem lw_p31 : lw_okq (⟨"BottleReturnModel", "find", "(I)I"⟩, 26) := ⟨⟨by decide +kernel, by decide +kernel⟩, List.mem_of_getElem? (i := 712) (by decide +kernel), List.mem_of_getElem? (i := 953) (by decide +kernel), List.mem_of_getElem? (i := 954) (by decide +kernel)⟩
def lw_privs_2 : List (MethodName × Nat) := [(⟨"BottleReturnModel", "rear", "(I)I"⟩, 26), (⟨"BottleReturnModel", "get", "(II)I"⟩, 26), (⟨"BottleReturnModel", "put", "(III)V"⟩, 26), (⟨"BottleReturnModel", "over", "(I)I"⟩, 26), (⟨"BottleReturnModel", "isBlocked", "()Z"⟩, 26), (⟨"BottleReturnModel", "judge", "(I)V"⟩, 26), (⟨"BottleReturnModel", "against", "(I)I"⟩, 26), (⟨"BottleReturnModel", "isSuspicious", "()Z"⟩, 26), (⟨"BottleReturnModel", "writes", "()Z"⟩, 26), (⟨"BottleReturnModel", "pay", "(I)V"⟩, 26), (⟨"BottleReturnModel", "drop", "(I)Z"⟩, 26), (⟨"BottleReturnModel", "remove", "(I)V"⟩, 26), (⟨"BottleReturnModel", "forget", "(I)V"⟩, 26), (⟨"BottleReturnModel", "voucherAt", "(I)I"⟩, 26), (⟨"BottleReturnModel", "endOf", "(I)I"⟩, 26), (⟨"BottleReturnModel", "find", "(I)I"⟩, 26)]
theorem lw_r2 : ∀ q ∈ lw_privs_2, lw_okq q := List.forall_mem_cons.mpr ⟨lw_p16, List.forall_mem_cons.mpr ⟨lw_p17, List.forall_mem_cons.mpr ⟨lw_p18, List.forall_mem_cons.mpr ⟨lw_p19, List.forall_mem_cons.mpr ⟨lw_p20, List.forall_mem_cons.mpr ⟨lw_p21, List.forall_mem_cons.mpr ⟨lw_p22, List.forall_mem_cons.mpr ⟨lw_p23, List.forall_mem_cons.mpr ⟨lw_p24, List.forall_mem_cons.mpr ⟨lw_p25, List.forall_mem_cons.mpr ⟨lw_p26, List.forall_mem_cons.mpr ⟨lw_p27, List.forall_mem_cons.mpr ⟨lw_p28, List.forall_mem_cons.mpr ⟨lw_p29, List.forall_mem_cons.mpr ⟨lw_p30, List.forall_mem_cons.mpr ⟨lw_p31, fun _ h => absurd h List.not_mem_nil⟩⟩⟩⟩⟩⟩⟩⟩⟩⟩⟩⟩⟩⟩⟩⟩
def lw_privs : List (MethodName × Nat) := lw_privs_1 ++ (lw_privs_2)
def lw_tbl : List Cond := k2_sels lw_privs ++ tables_1
theorem lw_privs_ok : ∀ q ∈ lw_privs, lw_okq q := by
  show ∀ q ∈ lw_privs_1 ++ (lw_privs_2), lw_okq q
  exact List.forall_mem_append.mpr ⟨lw_r1, lw_r2⟩

/-! the words that every method of this claim takes: those of the tables that stay true as the tables grow warmer -/
def wt : List Cond := lw_tbl.filter goodWord
theorem wt_in {w : Cond} (h : w ∈ tables_1) (hg : goodWord w = true) : w ∈ wt := List.mem_filter.mpr ⟨List.mem_append_right _ h, hg⟩
theorem wt_sel {w : Cond} (h : w ∈ k2_sels lw_privs) (hg : goodWord w = true) : w ∈ wt := List.mem_filter.mpr ⟨List.mem_append_left _ h, hg⟩
theorem wt_of {args : Array Value} {s : State} (h : ∀ w ∈ lw_tbl, w.before args s = true) : ∀ w ∈ wt, w.before args s = true := fun w hw => h w (List.mem_filter.mp hw).1
theorem wt_at {args : Array Value} {s : State} (h : ∀ w ∈ wt, w.before args s = true) : ∀ w ∈ wt, ∀ (a : Array Value) (U : State), s.WarmedH U.vm → w.before a U = true := fun w hw a U hW => word_at hW (good_of_word (List.mem_filter.mp hw).2) (h w hw)

def T_b : u_T := fun k => match k with
  | 0 => ("BottleReturn", "catalogue", "LBottleReturn$Catalogue;", true)
  | 1 => ("BottleReturn", "onBelt", "LBottleReturn$Belt;", true)
  | 2 => ("BottleReturn", "bins", "LBottleReturn$Bins;", true)
  | 3 => ("BottleReturn", "vouchers", "LBottleReturn$Vouchers;", true)
  | 4 => ("BottleReturn", "journal", "LBottleReturn$Journal;", true)
  | 5 => ("BottleReturn", "latest", "LBottleReturn$Latest;", true)
  | 6 => ("BottleReturn", "refused", "[I", true)
  | 7 => ("BottleReturn", "credit", "I", false)
  | 8 => ("BottleReturn", "paidCount", "I", false)
  | 9 => ("BottleReturn", "paidCents", "I", false)
  | 10 => ("BottleReturn", "givenCents", "I", false)
  | _ => ("BottleReturn", "stepsBack", "I", false)
def ty_b : Nat → FieldType := fun k => match k with
  | 0 => .object "BottleReturn$Catalogue"
  | 1 => .object "BottleReturn$Belt"
  | 2 => .object "BottleReturn$Bins"
  | 3 => .object "BottleReturn$Vouchers"
  | 4 => .object "BottleReturn$Journal"
  | 5 => .object "BottleReturn$Latest"
  | 6 => .array .int
  | 7 => .int
  | 8 => .int
  | 9 => .int
  | 10 => .int
  | _ => .int
theorem nm_b : ∀ a, a < 12 → ∀ b, b < 12 → a ≠ b → (T_b a).2.1 ≠ (T_b b).2.1 := by decide +kernel
theorem tk_b : ∀ k, k < 12 → parseFieldDescriptor (T_b k).2.2.1 = some (ty_b k) := by decide +kernel
theorem in_b : ∀ w ∈ u_ws "BottleReturn" T_b 12, w ∈ wt := by decide +kernel
def T_ca : u_T := fun k => match k with
  | 0 => ("BottleReturn$Catalogue", "codes", "[I", true)
  | 1 => ("BottleReturn$Catalogue", "deposits", "[I", true)
  | 2 => ("BottleReturn$Catalogue", "bins", "[I", true)
  | 3 => ("BottleReturn$Catalogue", "lows", "[I", true)
  | 4 => ("BottleReturn$Catalogue", "highs", "[I", true)
  | 5 => ("BottleReturn$Catalogue", "contours", "[I", true)
  | 6 => ("BottleReturn$Catalogue", "widths", "[[I", true)
  | _ => ("BottleReturn$Catalogue", "limits", "[I", true)
def ty_ca : Nat → FieldType := fun k => match k with
  | 0 => .array .int
  | 1 => .array .int
  | 2 => .array .int
  | 3 => .array .int
  | 4 => .array .int
  | 5 => .array .int
  | 6 => .array (.array .int)
  | _ => .array .int
theorem nm_ca : ∀ a, a < 8 → ∀ b, b < 8 → a ≠ b → (T_ca a).2.1 ≠ (T_ca b).2.1 := by decide +kernel
theorem tk_ca : ∀ k, k < 8 → parseFieldDescriptor (T_ca k).2.2.1 = some (ty_ca k) := by decide +kernel
theorem in_ca : ∀ w ∈ u_ws "BottleReturn$Catalogue" T_ca 8, w ∈ wt := by decide +kernel
def T_be : u_T := fun k => match k with
  | 0 => ("BottleReturn$Belt", "row", "[LBottleReturn$Container;", true)
  | 1 => ("BottleReturn$Belt", "count", "I", false)
  | _ => ("BottleReturn$Belt", "entered", "I", false)
def ty_be : Nat → FieldType := fun k => match k with
  | 0 => .array (.object "BottleReturn$Container")
  | 1 => .int
  | _ => .int
theorem nm_be : ∀ a, a < 3 → ∀ b, b < 3 → a ≠ b → (T_be a).2.1 ≠ (T_be b).2.1 := by decide +kernel
theorem tk_be : ∀ k, k < 3 → parseFieldDescriptor (T_be k).2.2.1 = some (ty_be k) := by decide +kernel
theorem in_be : ∀ w ∈ u_ws "BottleReturn$Belt" T_be 3, w ∈ wt := by decide +kernel
def T_co : u_T := fun k => match k with
  | 0 => ("BottleReturn$Container", "codes", "LBottleReturn$Row;", true)
  | 1 => ("BottleReturn$Container", "widths", "LBottleReturn$Row;", true)
  | 2 => ("BottleReturn$Container", "number", "I", false)
  | 3 => ("BottleReturn$Container", "length", "I", false)
  | 4 => ("BottleReturn$Container", "front", "I", false)
  | 5 => ("BottleReturn$Container", "weight", "I", false)
  | 6 => ("BottleReturn$Container", "judgement", "I", false)
  | 7 => ("BottleReturn$Container", "kind", "I", false)
  | _ => ("BottleReturn$Container", "paid", "Z", false)
def ty_co : Nat → FieldType := fun k => match k with
  | 0 => .object "BottleReturn$Row"
  | 1 => .object "BottleReturn$Row"
  | 2 => .int
  | 3 => .int
  | 4 => .int
  | 5 => .int
  | 6 => .int
  | 7 => .int
  | _ => .boolean
theorem nm_co : ∀ a, a < 9 → ∀ b, b < 9 → a ≠ b → (T_co a).2.1 ≠ (T_co b).2.1 := by decide +kernel
theorem tk_co : ∀ k, k < 9 → parseFieldDescriptor (T_co k).2.2.1 = some (ty_co k) := by decide +kernel
theorem in_co : ∀ w ∈ u_ws "BottleReturn$Container" T_co 9, w ∈ wt := by decide +kernel
def T_ro : u_T := fun k => match k with
  | 0 => ("BottleReturn$Row", "values", "[I", true)
  | _ => ("BottleReturn$Row", "count", "I", false)
def ty_ro : Nat → FieldType := fun k => match k with
  | 0 => .array .int
  | _ => .int
theorem nm_ro : ∀ a, a < 2 → ∀ b, b < 2 → a ≠ b → (T_ro a).2.1 ≠ (T_ro b).2.1 := by decide +kernel
theorem tk_ro : ∀ k, k < 2 → parseFieldDescriptor (T_ro k).2.2.1 = some (ty_ro k) := by decide +kernel
theorem in_ro : ∀ w ∈ u_ws "BottleReturn$Row" T_ro 2, w ∈ wt := by decide +kernel
def T_bi : u_T := fun k => match k with
  | 0 => ("BottleReturn$Bins", "held", "[I", true)
  | _ => ("BottleReturn$Bins", "rooms", "[I", true)
def ty_bi : Nat → FieldType := fun k => match k with
  | 0 => .array .int
  | _ => .array .int
theorem nm_bi : ∀ a, a < 2 → ∀ b, b < 2 → a ≠ b → (T_bi a).2.1 ≠ (T_bi b).2.1 := by decide +kernel
theorem tk_bi : ∀ k, k < 2 → parseFieldDescriptor (T_bi k).2.2.1 = some (ty_bi k) := by decide +kernel
theorem in_bi : ∀ w ∈ u_ws "BottleReturn$Bins" T_bi 2, w ∈ wt := by decide +kernel
def T_vo : u_T := fun k => match k with
  | 0 => ("BottleReturn$Vouchers", "serials", "[I", true)
  | 1 => ("BottleReturn$Vouchers", "sums", "[I", true)
  | 2 => ("BottleReturn$Vouchers", "redeemed", "[Z", true)
  | 3 => ("BottleReturn$Vouchers", "kept", "I", false)
  | 4 => ("BottleReturn$Vouchers", "issued", "I", false)
  | _ => ("BottleReturn$Vouchers", "cents", "I", false)
def ty_vo : Nat → FieldType := fun k => match k with
  | 0 => .array .int
  | 1 => .array .int
  | 2 => .array .boolean
  | 3 => .int
  | 4 => .int
  | _ => .int
theorem nm_vo : ∀ a, a < 6 → ∀ b, b < 6 → a ≠ b → (T_vo a).2.1 ≠ (T_vo b).2.1 := by decide +kernel
theorem tk_vo : ∀ k, k < 6 → parseFieldDescriptor (T_vo k).2.2.1 = some (ty_vo k) := by decide +kernel
theorem in_vo : ∀ w ∈ u_ws "BottleReturn$Vouchers" T_vo 6, w ∈ wt := by decide +kernel
def T_jo : u_T := fun k => match k with
  | 0 => ("BottleReturn$Journal", "records", "I", false)
  | 1 => ("BottleReturn$Journal", "cut", "I", false)
  | _ => ("BottleReturn$Journal", "on", "Z", false)
def ty_jo : Nat → FieldType := fun k => match k with
  | 0 => .int
  | 1 => .int
  | _ => .boolean
theorem nm_jo : ∀ a, a < 3 → ∀ b, b < 3 → a ≠ b → (T_jo a).2.1 ≠ (T_jo b).2.1 := by decide +kernel
theorem tk_jo : ∀ k, k < 3 → parseFieldDescriptor (T_jo k).2.2.1 = some (ty_jo k) := by decide +kernel
theorem in_jo : ∀ w ∈ u_ws "BottleReturn$Journal" T_jo 3, w ∈ wt := by decide +kernel
def T_la : u_T := fun k => match k with
  | 0 => ("BottleReturn$Latest", "widths", "[I", true)
  | _ => ("BottleReturn$Latest", "times", "I", false)
def ty_la : Nat → FieldType := fun k => match k with
  | 0 => .array .int
  | _ => .int
theorem nm_la : ∀ a, a < 2 → ∀ b, b < 2 → a ≠ b → (T_la a).2.1 ≠ (T_la b).2.1 := by decide +kernel
theorem tk_la : ∀ k, k < 2 → parseFieldDescriptor (T_la k).2.2.1 = some (ty_la k) := by decide +kernel
theorem in_la : ∀ w ∈ u_ws "BottleReturn$Latest" T_la 2, w ∈ wt := by decide +kernel
def T_m : u_T := fun k => match k with
  | 0 => ("BottleReturnModel", "contours", "[I", true)
  | 1 => ("BottleReturnModel", "limits", "[I", true)
  | 2 => ("BottleReturnModel", "kinds", "[I", true)
  | 3 => ("BottleReturnModel", "belt", "[I", true)
  | 4 => ("BottleReturnModel", "size", "I", false)
  | 5 => ("BottleReturnModel", "entered", "I", false)
  | 6 => ("BottleReturnModel", "bins", "[I", true)
  | 7 => ("BottleReturnModel", "rooms", "[I", true)
  | 8 => ("BottleReturnModel", "credit", "I", false)
  | 9 => ("BottleReturnModel", "serials", "[I", true)
  | 10 => ("BottleReturnModel", "vouchers", "[I", true)
  | 11 => ("BottleReturnModel", "redeemed", "[Z", true)
  | 12 => ("BottleReturnModel", "kept", "I", false)
  | 13 => ("BottleReturnModel", "serial", "I", false)
  | 14 => ("BottleReturnModel", "latest", "[I", true)
  | 15 => ("BottleReturnModel", "accepted", "I", false)
  | 16 => ("BottleReturnModel", "backwards", "I", false)
  | 17 => ("BottleReturnModel", "off", "Z", false)
  | 18 => ("BottleReturnModel", "cut", "I", false)
  | 19 => ("BottleReturnModel", "records", "I", false)
  | 20 => ("BottleReturnModel", "refused", "[I", true)
  | 21 => ("BottleReturnModel", "paid", "I", false)
  | 22 => ("BottleReturnModel", "paidCents", "I", false)
  | 23 => ("BottleReturnModel", "voucherCents", "I", false)
  | 24 => ("BottleReturnModel", "given", "I", false)
  | _ => ("BottleReturnModel", "thrown", "I", false)
def ty_m : Nat → FieldType := fun k => match k with
  | 0 => .array .int
  | 1 => .array .int
  | 2 => .array .int
  | 3 => .array .int
  | 4 => .int
  | 5 => .int
  | 6 => .array .int
  | 7 => .array .int
  | 8 => .int
  | 9 => .array .int
  | 10 => .array .int
  | 11 => .array .boolean
  | 12 => .int
  | 13 => .int
  | 14 => .array .int
  | 15 => .int
  | 16 => .int
  | 17 => .boolean
  | 18 => .int
  | 19 => .int
  | 20 => .array .int
  | 21 => .int
  | 22 => .int
  | 23 => .int
  | 24 => .int
  | _ => .int
theorem nm_m : ∀ a, a < 26 → ∀ b, b < 26 → a ≠ b → (T_m a).2.1 ≠ (T_m b).2.1 := by decide +kernel
theorem tk_m : ∀ k, k < 26 → parseFieldDescriptor (T_m k).2.2.1 = some (ty_m k) := by decide +kernel
theorem in_m : ∀ w ∈ u_ws "BottleReturnModel" T_m 26, w ∈ wt := by decide +kernel
abbrev vwCl : List vw_C := [("BottleReturn", T_b, 12), ("BottleReturn$Catalogue", T_ca, 8), ("BottleReturn$Belt", T_be, 3), ("BottleReturn$Container", T_co, 9), ("BottleReturn$Row", T_ro, 2), ("BottleReturn$Bins", T_bi, 2), ("BottleReturn$Vouchers", T_vo, 6), ("BottleReturn$Journal", T_jo, 3), ("BottleReturn$Latest", T_la, 2), ("BottleReturnModel", T_m, 26)]
def y_b_init : MethodName := ⟨"BottleReturn", "<init>", "()V"⟩
abbrev c_b_init : ByteArray := prog_1_method_1_code
theorem w_b_init : Cond.code y_b_init c_b_init 1 (Option.none : Option Jvm.ClassFile.FieldType) ∈ wt := wt_in (List.mem_of_getElem? (i := 22) (by decide +kernel)) rfl
def y_b_contour : MethodName := ⟨"BottleReturn", "contour", "(IIII)V"⟩
abbrev c_b_contour : ByteArray := prog_1_method_2_code
theorem w_b_contour : Cond.code y_b_contour c_b_contour 5 (Option.none : Option Jvm.ClassFile.FieldType) ∈ wt := wt_in (List.mem_of_getElem? (i := 315) (by decide +kernel)) rfl
def y_b_kind : MethodName := ⟨"BottleReturn", "kind", "(IIIIIII)I"⟩
abbrev c_b_kind : ByteArray := prog_1_method_3_code
theorem w_b_kind : Cond.code y_b_kind c_b_kind 9 (some FieldType.int) ∈ wt := wt_in (List.mem_of_getElem? (i := 413) (by decide +kernel)) rfl
def y_b_enter : MethodName := ⟨"BottleReturn", "enter", "(I)I"⟩
abbrev c_b_enter : ByteArray := prog_1_method_4_code
theorem w_b_enter : Cond.code y_b_enter c_b_enter 2 (some FieldType.int) ∈ wt := wt_in (List.mem_of_getElem? (i := 437) (by decide +kernel)) rfl
def y_b_code : MethodName := ⟨"BottleReturn", "code", "(I)Z"⟩
abbrev c_b_code : ByteArray := prog_1_method_5_code
theorem w_b_code : Cond.code y_b_code c_b_code 3 (some FieldType.boolean) ∈ wt := wt_in (List.mem_of_getElem? (i := 454) (by decide +kernel)) rfl
def y_b_width : MethodName := ⟨"BottleReturn", "width", "(I)Z"⟩
abbrev c_b_width : ByteArray := prog_1_method_6_code
theorem w_b_width : Cond.code y_b_width c_b_width 3 (some FieldType.boolean) ∈ wt := wt_in (List.mem_of_getElem? (i := 478) (by decide +kernel)) rfl
def y_b_weigh : MethodName := ⟨"BottleReturn", "weigh", "(I)Z"⟩
abbrev c_b_weigh : ByteArray := prog_1_method_7_code
theorem w_b_weigh : Cond.code y_b_weigh c_b_weigh 3 (some FieldType.boolean) ∈ wt := wt_in (List.mem_of_getElem? (i := 485) (by decide +kernel)) rfl
def y_b_forward : MethodName := ⟨"BottleReturn", "forward", "(I)I"⟩
abbrev c_b_forward : ByteArray := prog_1_method_8_code
theorem w_b_forward : Cond.code y_b_forward c_b_forward 3 (some FieldType.int) ∈ wt := wt_in (List.mem_of_getElem? (i := 492) (by decide +kernel)) rfl
def y_b_back : MethodName := ⟨"BottleReturn", "back", "(I)I"⟩
abbrev c_b_back : ByteArray := prog_1_method_9_code
theorem w_b_back : Cond.code y_b_back c_b_back 4 (some FieldType.int) ∈ wt := wt_in (List.mem_of_getElem? (i := 576) (by decide +kernel)) rfl
def y_b_voucher : MethodName := ⟨"BottleReturn", "voucher", "()I"⟩
abbrev c_b_voucher : ByteArray := prog_1_method_10_code
theorem w_b_voucher : Cond.code y_b_voucher c_b_voucher 2 (some FieldType.int) ∈ wt := wt_in (List.mem_of_getElem? (i := 592) (by decide +kernel)) rfl
def y_b_give : MethodName := ⟨"BottleReturn", "give", "()I"⟩
abbrev c_b_give : ByteArray := prog_1_method_11_code
theorem w_b_give : Cond.code y_b_give c_b_give 2 (some FieldType.int) ∈ wt := wt_in (List.mem_of_getElem? (i := 607) (by decide +kernel)) rfl
def y_b_redeem : MethodName := ⟨"BottleReturn", "redeem", "(I)I"⟩
abbrev c_b_redeem : ByteArray := prog_1_method_12_code
theorem w_b_redeem : Cond.code y_b_redeem c_b_redeem 3 (some FieldType.int) ∈ wt := wt_in (List.mem_of_getElem? (i := 614) (by decide +kernel)) rfl
def y_b_clear : MethodName := ⟨"BottleReturn", "clear", "()I"⟩
abbrev c_b_clear : ByteArray := prog_1_method_13_code
theorem w_b_clear : Cond.code y_b_clear c_b_clear 1 (some FieldType.int) ∈ wt := wt_in (List.mem_of_getElem? (i := 629) (by decide +kernel)) rfl
def y_b_empty : MethodName := ⟨"BottleReturn", "empty", "(II)I"⟩
abbrev c_b_empty : ByteArray := prog_1_method_14_code
theorem w_b_empty : Cond.code y_b_empty c_b_empty 4 (some FieldType.int) ∈ wt := wt_in (List.mem_of_getElem? (i := 640) (by decide +kernel)) rfl
def y_b_service : MethodName := ⟨"BottleReturn", "service", "()Z"⟩
abbrev c_b_service : ByteArray := prog_1_method_15_code
theorem w_b_service : Cond.code y_b_service c_b_service 2 (some FieldType.boolean) ∈ wt := wt_in (List.mem_of_getElem? (i := 647) (by decide +kernel)) rfl
def y_b_cut : MethodName := ⟨"BottleReturn", "cut", "(I)V"⟩
abbrev c_b_cut : ByteArray := prog_1_method_16_code
theorem w_b_cut : Cond.code y_b_cut c_b_cut 2 (Option.none : Option Jvm.ClassFile.FieldType) ∈ wt := wt_in (List.mem_of_getElem? (i := 654) (by decide +kernel)) rfl
def y_b_power : MethodName := ⟨"BottleReturn", "power", "()I"⟩
abbrev c_b_power : ByteArray := prog_1_method_17_code
theorem w_b_power : Cond.code y_b_power c_b_power 2 (some FieldType.int) ∈ wt := wt_in (List.mem_of_getElem? (i := 263) (by decide +kernel)) rfl
def y_b_check : MethodName := ⟨"BottleReturn", "check", "(II)Z"⟩
abbrev c_b_check : ByteArray := prog_1_method_18_code
theorem w_b_check : Cond.code y_b_check c_b_check 5 (some FieldType.boolean) ∈ wt := wt_in (List.mem_of_getElem? (i := 661) (by decide +kernel)) rfl
def y_b_about : MethodName := ⟨"BottleReturn", "about", "(II)I"⟩
abbrev c_b_about : ByteArray := prog_1_method_19_code
theorem w_b_about : Cond.code y_b_about c_b_about 4 (some FieldType.int) ∈ wt := wt_in (List.mem_of_getElem? (i := 671) (by decide +kernel)) rfl
def y_b_container : MethodName := ⟨"BottleReturn", "container", "(II)I"⟩
abbrev c_b_container : ByteArray := prog_1_method_20_code
theorem w_b_container : Cond.code y_b_container c_b_container 4 (some FieldType.int) ∈ wt := wt_in (List.mem_of_getElem? (i := 692) (by decide +kernel)) rfl
def y_b_belt : MethodName := ⟨"BottleReturn", "belt", "(I)I"⟩
abbrev c_b_belt : ByteArray := prog_1_method_21_code
theorem w_b_belt : Cond.code y_b_belt c_b_belt 2 (some FieldType.int) ∈ wt := wt_in (List.mem_of_getElem? (i := 303) (by decide +kernel)) rfl
def y_b_bin : MethodName := ⟨"BottleReturn", "bin", "(II)I"⟩
abbrev c_b_bin : ByteArray := prog_1_method_22_code
theorem w_b_bin : Cond.code y_b_bin c_b_bin 3 (some FieldType.int) ∈ wt := wt_in (List.mem_of_getElem? (i := 703) (by decide +kernel)) rfl
def y_b_total : MethodName := ⟨"BottleReturn", "total", "(I)I"⟩
abbrev c_b_total : ByteArray := prog_1_method_23_code
theorem w_b_total : Cond.code y_b_total c_b_total 2 (some FieldType.int) ∈ wt := wt_in (List.mem_of_getElem? (i := 710) (by decide +kernel)) rfl
def y_b_requireOn : MethodName := ⟨"BottleReturn", "requireOn", "()V"⟩
abbrev c_b_requireOn : ByteArray := prog_1_method_24_code
theorem w_b_requireOn : Cond.code y_b_requireOn c_b_requireOn 1 (Option.none : Option Jvm.ClassFile.FieldType) ∈ wt := wt_in (List.mem_of_getElem? (i := 319) (by decide +kernel)) rfl
def y_b_requireEmptyBelt : MethodName := ⟨"BottleReturn", "requireEmptyBelt", "()V"⟩
abbrev c_b_requireEmptyBelt : ByteArray := prog_1_method_25_code
theorem w_b_requireEmptyBelt : Cond.code y_b_requireEmptyBelt c_b_requireEmptyBelt 1 (Option.none : Option Jvm.ClassFile.FieldType) ∈ wt := wt_in (List.mem_of_getElem? (i := 417) (by decide +kernel)) rfl
def y_b_require : MethodName := ⟨"BottleReturn", "require", "(Z)V"⟩
abbrev c_b_require : ByteArray := prog_1_method_26_code
theorem w_b_require : Cond.code y_b_require c_b_require 1 (Option.none : Option Jvm.ClassFile.FieldType) ∈ wt := wt_in (List.mem_of_getElem? (i := 384) (by decide +kernel)) rfl
def y_b_isIndex : MethodName := ⟨"BottleReturn", "isIndex", "(II)Z"⟩
abbrev c_b_isIndex : ByteArray := prog_1_method_27_code
theorem w_b_isIndex : Cond.code y_b_isIndex c_b_isIndex 2 (some FieldType.boolean) ∈ wt := wt_in (List.mem_of_getElem? (i := 306) (by decide +kernel)) rfl
def y_b_isWithin : MethodName := ⟨"BottleReturn", "isWithin", "(III)Z"⟩
abbrev c_b_isWithin : ByteArray := prog_1_method_28_code
theorem w_b_isWithin : Cond.code y_b_isWithin c_b_isWithin 3 (some FieldType.boolean) ∈ wt := wt_in (List.mem_of_getElem? (i := 402) (by decide +kernel)) rfl
def y_b_asNumber : MethodName := ⟨"BottleReturn", "asNumber", "(Z)I"⟩
abbrev c_b_asNumber : ByteArray := prog_1_method_29_code
theorem w_b_asNumber : Cond.code y_b_asNumber c_b_asNumber 1 (some FieldType.int) ∈ wt := wt_in (List.mem_of_getElem? (i := 685) (by decide +kernel)) rfl
def y_b_isSuspicious : MethodName := ⟨"BottleReturn", "isSuspicious", "()Z"⟩
abbrev c_b_isSuspicious : ByteArray := prog_1_method_30_code
theorem w_b_isSuspicious : Cond.code y_b_isSuspicious c_b_isSuspicious 1 (some FieldType.boolean) ∈ wt := wt_in (List.mem_of_getElem? (i := 554) (by decide +kernel)) rfl
def y_b_stepForward : MethodName := ⟨"BottleReturn", "stepForward", "()V"⟩
abbrev c_b_stepForward : ByteArray := prog_1_method_31_code
theorem w_b_stepForward : Cond.code y_b_stepForward c_b_stepForward 3 (Option.none : Option Jvm.ClassFile.FieldType) ∈ wt := wt_in (List.mem_of_getElem? (i := 500) (by decide +kernel)) rfl
def y_b_leavesOnArrival : MethodName := ⟨"BottleReturn", "leavesOnArrival", "(I)Z"⟩
abbrev c_b_leavesOnArrival : ByteArray := prog_1_method_32_code
theorem w_b_leavesOnArrival : Cond.code y_b_leavesOnArrival c_b_leavesOnArrival 3 (some FieldType.boolean) ∈ wt := wt_in (List.mem_of_getElem? (i := 508) (by decide +kernel)) rfl
def y_b_judge : MethodName := ⟨"BottleReturn", "judge", "(LBottleReturn$Container;)V"⟩
abbrev c_b_judge : ByteArray := prog_1_method_33_code
theorem w_b_judge : Cond.code y_b_judge c_b_judge 4 (Option.none : Option Jvm.ClassFile.FieldType) ∈ wt := wt_in (List.mem_of_getElem? (i := 512) (by decide +kernel)) rfl
def y_b_judgementByReadings : MethodName := ⟨"BottleReturn", "judgementByReadings", "(LBottleReturn$Container;I)I"⟩
abbrev c_b_judgementByReadings : ByteArray := prog_1_method_34_code
theorem w_b_judgementByReadings : Cond.code y_b_judgementByReadings c_b_judgementByReadings 3 (some FieldType.int) ∈ wt := wt_in (List.mem_of_getElem? (i := 521) (by decide +kernel)) rfl
def y_b_judgementByState : MethodName := ⟨"BottleReturn", "judgementByState", "(LBottleReturn$Container;I)I"⟩
abbrev c_b_judgementByState : ByteArray := prog_1_method_35_code
theorem w_b_judgementByState : Cond.code y_b_judgementByState c_b_judgementByState 4 (some FieldType.int) ∈ wt := wt_in (List.mem_of_getElem? (i := 542) (by decide +kernel)) rfl
def y_b_acceptedFor : MethodName := ⟨"BottleReturn", "acceptedFor", "(I)I"⟩
abbrev c_b_acceptedFor : ByteArray := prog_1_method_36_code
theorem w_b_acceptedFor : Cond.code y_b_acceptedFor c_b_acceptedFor 5 (some FieldType.int) ∈ wt := wt_in (List.mem_of_getElem? (i := 546) (by decide +kernel)) rfl
def y_b_pay : MethodName := ⟨"BottleReturn", "pay", "(LBottleReturn$Container;)V"⟩
abbrev c_b_pay : ByteArray := prog_1_method_37_code
theorem w_b_pay : Cond.code y_b_pay c_b_pay 3 (Option.none : Option Jvm.ClassFile.FieldType) ∈ wt := wt_in (List.mem_of_getElem? (i := 279) (by decide +kernel)) rfl
def y_b_intoBin : MethodName := ⟨"BottleReturn", "intoBin", "(I)Z"⟩
abbrev c_b_intoBin : ByteArray := prog_1_method_38_code
theorem w_b_intoBin : Cond.code y_b_intoBin c_b_intoBin 3 (some FieldType.boolean) ∈ wt := wt_in (List.mem_of_getElem? (i := 295) (by decide +kernel)) rfl
def y_b_payUnpaid : MethodName := ⟨"BottleReturn", "payUnpaid", "()V"⟩
abbrev c_b_payUnpaid : ByteArray := prog_1_method_39_code
theorem w_b_payUnpaid : Cond.code y_b_payUnpaid c_b_payUnpaid 3 (Option.none : Option Jvm.ClassFile.FieldType) ∈ wt := wt_in (List.mem_of_getElem? (i := 275) (by decide +kernel)) rfl
def y_b_binWaiting : MethodName := ⟨"BottleReturn", "binWaiting", "()V"⟩
abbrev c_b_binWaiting : ByteArray := prog_1_method_40_code
theorem w_b_binWaiting : Cond.code y_b_binWaiting c_b_binWaiting 4 (Option.none : Option Jvm.ClassFile.FieldType) ∈ wt := wt_in (List.mem_of_getElem? (i := 287) (by decide +kernel)) rfl
def y_m_init : MethodName := ⟨"BottleReturnModel", "<init>", "()V"⟩
abbrev c_m_init : ByteArray := prog_11_method_1_code
theorem w_m_init : Cond.code y_m_init c_m_init 2 (Option.none : Option Jvm.ClassFile.FieldType) ∈ wt := wt_in (List.mem_of_getElem? (i := 715) (by decide +kernel)) rfl
def y_m_thrown : MethodName := ⟨"BottleReturnModel", "thrown", "()I"⟩
abbrev c_m_thrown : ByteArray := prog_11_method_2_code
theorem w_m_thrown : Cond.code y_m_thrown c_m_thrown 1 (some FieldType.int) ∈ wt := wt_in (List.mem_of_getElem? (i := 799) (by decide +kernel)) rfl
def y_m_fails : MethodName := ⟨"BottleReturnModel", "fails", "(ZI)Z"⟩
abbrev c_m_fails : ByteArray := prog_11_method_3_code
theorem w_m_fails : Cond.code y_m_fails c_m_fails 3 (some FieldType.boolean) ∈ wt := wt_in (List.mem_of_getElem? (i := 807) (by decide +kernel)) rfl
def y_m_within : MethodName := ⟨"BottleReturnModel", "within", "(III)Z"⟩
abbrev c_m_within : ByteArray := prog_11_method_4_code
theorem w_m_within : Cond.code y_m_within c_m_within 3 (some FieldType.boolean) ∈ wt := wt_in (List.mem_of_getElem? (i := 810) (by decide +kernel)) rfl
def y_m_get : MethodName := ⟨"BottleReturnModel", "get", "(II)I"⟩
abbrev c_m_get : ByteArray := prog_11_method_5_code
theorem w_m_get : Cond.code y_m_get c_m_get 3 (some FieldType.int) ∈ wt := wt_in (List.mem_of_getElem? (i := 831) (by decide +kernel)) rfl
def y_m_put : MethodName := ⟨"BottleReturnModel", "put", "(III)V"⟩
abbrev c_m_put : ByteArray := prog_11_method_6_code
theorem w_m_put : Cond.code y_m_put c_m_put 4 (Option.none : Option Jvm.ClassFile.FieldType) ∈ wt := wt_in (List.mem_of_getElem? (i := 835) (by decide +kernel)) rfl
def y_m_rear : MethodName := ⟨"BottleReturnModel", "rear", "(I)I"⟩
abbrev c_m_rear : ByteArray := prog_11_method_7_code
theorem w_m_rear : Cond.code y_m_rear c_m_rear 2 (some FieldType.int) ∈ wt := wt_in (List.mem_of_getElem? (i := 827) (by decide +kernel)) rfl
def y_m_remove : MethodName := ⟨"BottleReturnModel", "remove", "(I)V"⟩
abbrev c_m_remove : ByteArray := prog_11_method_8_code
theorem w_m_remove : Cond.code y_m_remove c_m_remove 3 (Option.none : Option Jvm.ClassFile.FieldType) ∈ wt := wt_in (List.mem_of_getElem? (i := 887) (by decide +kernel)) rfl
def y_m_find : MethodName := ⟨"BottleReturnModel", "find", "(I)I"⟩
abbrev c_m_find : ByteArray := prog_11_method_9_code
theorem w_m_find : Cond.code y_m_find c_m_find 3 (some FieldType.int) ∈ wt := wt_in (List.mem_of_getElem? (i := 955) (by decide +kernel)) rfl
def y_m_contour : MethodName := ⟨"BottleReturnModel", "contour", "(IIII)V"⟩
abbrev c_m_contour : ByteArray := prog_11_method_10_code
theorem w_m_contour : Cond.code y_m_contour c_m_contour 6 (Option.none : Option Jvm.ClassFile.FieldType) ∈ wt := wt_in (List.mem_of_getElem? (i := 803) (by decide +kernel)) rfl
def y_m_kindOf : MethodName := ⟨"BottleReturnModel", "kindOf", "(I)I"⟩
abbrev c_m_kindOf : ByteArray := prog_11_method_11_code
theorem w_m_kindOf : Cond.code y_m_kindOf c_m_kindOf 3 (some FieldType.int) ∈ wt := wt_in (List.mem_of_getElem? (i := 819) (by decide +kernel)) rfl
def y_m_kind : MethodName := ⟨"BottleReturnModel", "kind", "(IIIIIII)I"⟩
abbrev c_m_kind : ByteArray := prog_11_method_12_code
theorem w_m_kind : Cond.code y_m_kind c_m_kind 11 (some FieldType.int) ∈ wt := wt_in (List.mem_of_getElem? (i := 814) (by decide +kernel)) rfl
def y_m_enter : MethodName := ⟨"BottleReturnModel", "enter", "(I)I"⟩
abbrev c_m_enter : ByteArray := prog_11_method_13_code
theorem w_m_enter : Cond.code y_m_enter c_m_enter 3 (some FieldType.int) ∈ wt := wt_in (List.mem_of_getElem? (i := 823) (by decide +kernel)) rfl
def y_m_over : MethodName := ⟨"BottleReturnModel", "over", "(I)I"⟩
abbrev c_m_over : ByteArray := prog_11_method_14_code
theorem w_m_over : Cond.code y_m_over c_m_over 3 (some FieldType.int) ∈ wt := wt_in (List.mem_of_getElem? (i := 843) (by decide +kernel)) rfl
def y_m_code : MethodName := ⟨"BottleReturnModel", "code", "(I)Z"⟩
abbrev c_m_code : ByteArray := prog_11_method_15_code
theorem w_m_code : Cond.code y_m_code c_m_code 3 (some FieldType.boolean) ∈ wt := wt_in (List.mem_of_getElem? (i := 839) (by decide +kernel)) rfl
def y_m_width : MethodName := ⟨"BottleReturnModel", "width", "(I)Z"⟩
abbrev c_m_width : ByteArray := prog_11_method_16_code
theorem w_m_width : Cond.code y_m_width c_m_width 3 (some FieldType.boolean) ∈ wt := wt_in (List.mem_of_getElem? (i := 847) (by decide +kernel)) rfl
def y_m_weigh : MethodName := ⟨"BottleReturnModel", "weigh", "(I)Z"⟩
abbrev c_m_weigh : ByteArray := prog_11_method_17_code
theorem w_m_weigh : Cond.code y_m_weigh c_m_weigh 3 (some FieldType.boolean) ∈ wt := wt_in (List.mem_of_getElem? (i := 851) (by decide +kernel)) rfl
def y_m_writes : MethodName := ⟨"BottleReturnModel", "writes", "()Z"⟩
abbrev c_m_writes : ByteArray := prog_11_method_18_code
theorem w_m_writes : Cond.code y_m_writes c_m_writes 1 (some FieldType.boolean) ∈ wt := wt_in (List.mem_of_getElem? (i := 875) (by decide +kernel)) rfl
def y_m_isBlocked : MethodName := ⟨"BottleReturnModel", "isBlocked", "()Z"⟩
abbrev c_m_isBlocked : ByteArray := prog_11_method_19_code
theorem w_m_isBlocked : Cond.code y_m_isBlocked c_m_isBlocked 2 (some FieldType.boolean) ∈ wt := wt_in (List.mem_of_getElem? (i := 859) (by decide +kernel)) rfl
def y_m_isSuspicious : MethodName := ⟨"BottleReturnModel", "isSuspicious", "()Z"⟩
abbrev c_m_isSuspicious : ByteArray := prog_11_method_20_code
theorem w_m_isSuspicious : Cond.code y_m_isSuspicious c_m_isSuspicious 1 (some FieldType.boolean) ∈ wt := wt_in (List.mem_of_getElem? (i := 871) (by decide +kernel)) rfl
def y_m_against : MethodName := ⟨"BottleReturnModel", "against", "(I)I"⟩
abbrev c_m_against : ByteArray := prog_11_method_21_code
theorem w_m_against : Cond.code y_m_against c_m_against 9 (some FieldType.int) ∈ wt := wt_in (List.mem_of_getElem? (i := 867) (by decide +kernel)) rfl
def y_m_judge : MethodName := ⟨"BottleReturnModel", "judge", "(I)V"⟩
abbrev c_m_judge : ByteArray := prog_11_method_22_code
theorem w_m_judge : Cond.code y_m_judge c_m_judge 4 (Option.none : Option Jvm.ClassFile.FieldType) ∈ wt := wt_in (List.mem_of_getElem? (i := 863) (by decide +kernel)) rfl
def y_m_pay : MethodName := ⟨"BottleReturnModel", "pay", "(I)V"⟩
abbrev c_m_pay : ByteArray := prog_11_method_23_code
theorem w_m_pay : Cond.code y_m_pay c_m_pay 3 (Option.none : Option Jvm.ClassFile.FieldType) ∈ wt := wt_in (List.mem_of_getElem? (i := 879) (by decide +kernel)) rfl
def y_m_drop : MethodName := ⟨"BottleReturnModel", "drop", "(I)Z"⟩
abbrev c_m_drop : ByteArray := prog_11_method_24_code
theorem w_m_drop : Cond.code y_m_drop c_m_drop 2 (some FieldType.boolean) ∈ wt := wt_in (List.mem_of_getElem? (i := 883) (by decide +kernel)) rfl
def y_m_forward : MethodName := ⟨"BottleReturnModel", "forward", "(I)I"⟩
abbrev c_m_forward : ByteArray := prog_11_method_25_code
theorem w_m_forward : Cond.code y_m_forward c_m_forward 5 (some FieldType.int) ∈ wt := wt_in (List.mem_of_getElem? (i := 855) (by decide +kernel)) rfl
def y_m_forget : MethodName := ⟨"BottleReturnModel", "forget", "(I)V"⟩
abbrev c_m_forget : ByteArray := prog_11_method_26_code
theorem w_m_forget : Cond.code y_m_forget c_m_forget 2 (Option.none : Option Jvm.ClassFile.FieldType) ∈ wt := wt_in (List.mem_of_getElem? (i := 895) (by decide +kernel)) rfl
def y_m_back : MethodName := ⟨"BottleReturnModel", "back", "(I)I"⟩
abbrev c_m_back : ByteArray := prog_11_method_27_code
theorem w_m_back : Cond.code y_m_back c_m_back 6 (some FieldType.int) ∈ wt := wt_in (List.mem_of_getElem? (i := 891) (by decide +kernel)) rfl
def y_m_voucher : MethodName := ⟨"BottleReturnModel", "voucher", "()I"⟩
abbrev c_m_voucher : ByteArray := prog_11_method_28_code
theorem w_m_voucher : Cond.code y_m_voucher c_m_voucher 1 (some FieldType.int) ∈ wt := wt_in (List.mem_of_getElem? (i := 899) (by decide +kernel)) rfl
def y_m_give : MethodName := ⟨"BottleReturnModel", "give", "()I"⟩
abbrev c_m_give : ByteArray := prog_11_method_29_code
theorem w_m_give : Cond.code y_m_give c_m_give 2 (some FieldType.int) ∈ wt := wt_in (List.mem_of_getElem? (i := 903) (by decide +kernel)) rfl
def y_m_voucherAt : MethodName := ⟨"BottleReturnModel", "voucherAt", "(I)I"⟩
abbrev c_m_voucherAt : ByteArray := prog_11_method_30_code
theorem w_m_voucherAt : Cond.code y_m_voucherAt c_m_voucherAt 3 (some FieldType.int) ∈ wt := wt_in (List.mem_of_getElem? (i := 911) (by decide +kernel)) rfl
def y_m_redeem : MethodName := ⟨"BottleReturnModel", "redeem", "(I)I"⟩
abbrev c_m_redeem : ByteArray := prog_11_method_31_code
theorem w_m_redeem : Cond.code y_m_redeem c_m_redeem 3 (some FieldType.int) ∈ wt := wt_in (List.mem_of_getElem? (i := 907) (by decide +kernel)) rfl
def y_m_clear : MethodName := ⟨"BottleReturnModel", "clear", "()I"⟩
abbrev c_m_clear : ByteArray := prog_11_method_32_code
theorem w_m_clear : Cond.code y_m_clear c_m_clear 3 (some FieldType.int) ∈ wt := wt_in (List.mem_of_getElem? (i := 915) (by decide +kernel)) rfl
def y_m_empty : MethodName := ⟨"BottleReturnModel", "empty", "(II)I"⟩
abbrev c_m_empty : ByteArray := prog_11_method_33_code
theorem w_m_empty : Cond.code y_m_empty c_m_empty 4 (some FieldType.int) ∈ wt := wt_in (List.mem_of_getElem? (i := 919) (by decide +kernel)) rfl
def y_m_service : MethodName := ⟨"BottleReturnModel", "service", "()Z"⟩
abbrev c_m_service : ByteArray := prog_11_method_34_code
theorem w_m_service : Cond.code y_m_service c_m_service 2 (some FieldType.boolean) ∈ wt := wt_in (List.mem_of_getElem? (i := 923) (by decide +kernel)) rfl
def y_m_cut : MethodName := ⟨"BottleReturnModel", "cut", "(I)V"⟩
abbrev c_m_cut : ByteArray := prog_11_method_35_code
theorem w_m_cut : Cond.code y_m_cut c_m_cut 2 (Option.none : Option Jvm.ClassFile.FieldType) ∈ wt := wt_in (List.mem_of_getElem? (i := 927) (by decide +kernel)) rfl
def y_m_power : MethodName := ⟨"BottleReturnModel", "power", "()I"⟩
abbrev c_m_power : ByteArray := prog_11_method_36_code
theorem w_m_power : Cond.code y_m_power c_m_power 4 (some FieldType.int) ∈ wt := wt_in (List.mem_of_getElem? (i := 931) (by decide +kernel)) rfl
def y_m_rest : MethodName := ⟨"BottleReturnModel", "rest", "(III)I"⟩
abbrev c_m_rest : ByteArray := prog_11_method_37_code
theorem w_m_rest : Cond.code y_m_rest c_m_rest 6 (some FieldType.int) ∈ wt := wt_in (List.mem_of_getElem? (i := 939) (by decide +kernel)) rfl
def y_m_endOf : MethodName := ⟨"BottleReturnModel", "endOf", "(I)I"⟩
abbrev c_m_endOf : ByteArray := prog_11_method_38_code
theorem w_m_endOf : Cond.code y_m_endOf c_m_endOf 2 (some FieldType.int) ∈ wt := wt_in (List.mem_of_getElem? (i := 947) (by decide +kernel)) rfl
def y_m_check : MethodName := ⟨"BottleReturnModel", "check", "(II)Z"⟩
abbrev c_m_check : ByteArray := prog_11_method_39_code
theorem w_m_check : Cond.code y_m_check c_m_check 3 (some FieldType.boolean) ∈ wt := wt_in (List.mem_of_getElem? (i := 935) (by decide +kernel)) rfl
def y_m_about : MethodName := ⟨"BottleReturnModel", "about", "(II)I"⟩
abbrev c_m_about : ByteArray := prog_11_method_40_code
theorem w_m_about : Cond.code y_m_about c_m_about 4 (some FieldType.int) ∈ wt := wt_in (List.mem_of_getElem? (i := 943) (by decide +kernel)) rfl
def y_m_container : MethodName := ⟨"BottleReturnModel", "container", "(II)I"⟩
abbrev c_m_container : ByteArray := prog_11_method_41_code
theorem w_m_container : Cond.code y_m_container c_m_container 4 (some FieldType.int) ∈ wt := wt_in (List.mem_of_getElem? (i := 951) (by decide +kernel)) rfl
def y_m_belt : MethodName := ⟨"BottleReturnModel", "belt", "(I)I"⟩
abbrev c_m_belt : ByteArray := prog_11_method_42_code
theorem w_m_belt : Cond.code y_m_belt c_m_belt 2 (some FieldType.int) ∈ wt := wt_in (List.mem_of_getElem? (i := 959) (by decide +kernel)) rfl
def y_m_bin : MethodName := ⟨"BottleReturnModel", "bin", "(II)I"⟩
abbrev c_m_bin : ByteArray := prog_11_method_43_code
theorem w_m_bin : Cond.code y_m_bin c_m_bin 3 (some FieldType.int) ∈ wt := wt_in (List.mem_of_getElem? (i := 963) (by decide +kernel)) rfl
def y_m_total : MethodName := ⟨"BottleReturnModel", "total", "(I)I"⟩
abbrev c_m_total : ByteArray := prog_11_method_44_code
theorem w_m_total : Cond.code y_m_total c_m_total 2 (some FieldType.int) ∈ wt := wt_in (List.mem_of_getElem? (i := 967) (by decide +kernel)) rfl
def y_be_init : MethodName := ⟨"BottleReturn$Belt", "<init>", "()V"⟩
abbrev c_be_init : ByteArray := prog_2_method_1_code
theorem w_be_init : Cond.code y_be_init c_be_init 2 (Option.none : Option Jvm.ClassFile.FieldType) ∈ wt := wt_in (List.mem_of_getElem? (i := 66) (by decide +kernel)) rfl
def y_be_putIn : MethodName := ⟨"BottleReturn$Belt", "putIn", "(I)I"⟩
abbrev c_be_putIn : ByteArray := prog_2_method_2_code
theorem w_be_putIn : Cond.code y_be_putIn c_be_putIn 2 (some FieldType.int) ∈ wt := wt_in (List.mem_of_getElem? (i := 441) (by decide +kernel)) rfl
def y_be_takeOff : MethodName := ⟨"BottleReturn$Belt", "takeOff", "(I)V"⟩
abbrev c_be_takeOff : ByteArray := prog_2_method_3_code
theorem w_be_takeOff : Cond.code y_be_takeOff c_be_takeOff 4 (Option.none : Option Jvm.ClassFile.FieldType) ∈ wt := wt_in (List.mem_of_getElem? (i := 299) (by decide +kernel)) rfl
def y_be_over : MethodName := ⟨"BottleReturn$Belt", "over", "(I)LBottleReturn$Container;"⟩
abbrev c_be_over : ByteArray := prog_2_method_4_code
theorem w_be_over : Cond.code y_be_over c_be_over 3 (Option.some (Jvm.ClassFile.FieldType.object "BottleReturn$Container")) ∈ wt := wt_in (List.mem_of_getElem? (i := 458) (by decide +kernel)) rfl
def y_be_withNumber : MethodName := ⟨"BottleReturn$Belt", "withNumber", "(I)LBottleReturn$Container;"⟩
abbrev c_be_withNumber : ByteArray := prog_2_method_5_code
theorem w_be_withNumber : Cond.code y_be_withNumber c_be_withNumber 3 (Option.some (Jvm.ClassFile.FieldType.object "BottleReturn$Container")) ∈ wt := wt_in (List.mem_of_getElem? (i := 696) (by decide +kernel)) rfl
def y_be_isBlocked : MethodName := ⟨"BottleReturn$Belt", "isBlocked", "()Z"⟩
abbrev c_be_isBlocked : ByteArray := prog_2_method_6_code
theorem w_be_isBlocked : Cond.code y_be_isBlocked c_be_isBlocked 2 (some FieldType.boolean) ∈ wt := wt_in (List.mem_of_getElem? (i := 496) (by decide +kernel)) rfl
def y_be_moveUp : MethodName := ⟨"BottleReturn$Belt", "moveUp", "()V"⟩
abbrev c_be_moveUp : ByteArray := prog_2_method_7_code
theorem w_be_moveUp : Cond.code y_be_moveUp c_be_moveUp 2 (Option.none : Option Jvm.ClassFile.FieldType) ∈ wt := wt_in (List.mem_of_getElem? (i := 504) (by decide +kernel)) rfl
def y_be_moveDown : MethodName := ⟨"BottleReturn$Belt", "moveDown", "()Z"⟩
abbrev c_be_moveDown : ByteArray := prog_2_method_8_code
theorem w_be_moveDown : Cond.code y_be_moveDown c_be_moveDown 3 (some FieldType.boolean) ∈ wt := wt_in (List.mem_of_getElem? (i := 580) (by decide +kernel)) rfl
def y_be_moveDownAt : MethodName := ⟨"BottleReturn$Belt", "moveDownAt", "(I)V"⟩
abbrev c_be_moveDownAt : ByteArray := prog_2_method_9_code
theorem w_be_moveDownAt : Cond.code y_be_moveDownAt c_be_moveDownAt 3 (Option.none : Option Jvm.ClassFile.FieldType) ∈ wt := wt_in (List.mem_of_getElem? (i := 584) (by decide +kernel)) rfl
def y_be_forgetBefore : MethodName := ⟨"BottleReturn$Belt", "forgetBefore", "(I)V"⟩
abbrev c_be_forgetBefore : ByteArray := prog_2_method_10_code
theorem w_be_forgetBefore : Cond.code y_be_forgetBefore c_be_forgetBefore 3 (Option.none : Option Jvm.ClassFile.FieldType) ∈ wt := wt_in (List.mem_of_getElem? (i := 267) (by decide +kernel)) rfl
def y_bi_init : MethodName := ⟨"BottleReturn$Bins", "<init>", "()V"⟩
abbrev c_bi_init : ByteArray := prog_3_method_1_code
theorem w_bi_init : Cond.code y_bi_init c_bi_init 2 (Option.none : Option Jvm.ClassFile.FieldType) ∈ wt := wt_in (List.mem_of_getElem? (i := 150) (by decide +kernel)) rfl
def y_ca_init : MethodName := ⟨"BottleReturn$Catalogue", "<init>", "()V"⟩
abbrev c_ca_init : ByteArray := prog_4_method_1_code
theorem w_ca_init : Cond.code y_ca_init c_ca_init 1 (Option.none : Option Jvm.ClassFile.FieldType) ∈ wt := wt_in (List.mem_of_getElem? (i := 30) (by decide +kernel)) rfl
def y_ca_setContour : MethodName := ⟨"BottleReturn$Catalogue", "setContour", "(IIII)V"⟩
abbrev c_ca_setContour : ByteArray := prog_4_method_2_code
theorem w_ca_setContour : Cond.code y_ca_setContour c_ca_setContour 7 (Option.none : Option Jvm.ClassFile.FieldType) ∈ wt := wt_in (List.mem_of_getElem? (i := 406) (by decide +kernel)) rfl
def y_ca_setKind : MethodName := ⟨"BottleReturn$Catalogue", "setKind", "(IIIIIII)V"⟩
abbrev c_ca_setKind : ByteArray := prog_4_method_3_code
theorem w_ca_setKind : Cond.code y_ca_setKind c_ca_setKind 8 (Option.none : Option Jvm.ClassFile.FieldType) ∈ wt := wt_in (List.mem_of_getElem? (i := 430) (by decide +kernel)) rfl
def y_ca_dropCode : MethodName := ⟨"BottleReturn$Catalogue", "dropCode", "(I)V"⟩
abbrev c_ca_dropCode : ByteArray := prog_4_method_4_code
theorem w_ca_dropCode : Cond.code y_ca_dropCode c_ca_dropCode 2 (Option.none : Option Jvm.ClassFile.FieldType) ∈ wt := wt_in (List.mem_of_getElem? (i := 426) (by decide +kernel)) rfl
def y_ca_kindWith : MethodName := ⟨"BottleReturn$Catalogue", "kindWith", "(I)I"⟩
abbrev c_ca_kindWith : ByteArray := prog_4_method_5_code
theorem w_ca_kindWith : Cond.code y_ca_kindWith c_ca_kindWith 3 (some FieldType.int) ∈ wt := wt_in (List.mem_of_getElem? (i := 422) (by decide +kernel)) rfl
def y_ca_kindOf : MethodName := ⟨"BottleReturn$Catalogue", "kindOf", "(LBottleReturn$Container;)I"⟩
abbrev c_ca_kindOf : ByteArray := prog_4_method_6_code
theorem w_ca_kindOf : Cond.code y_ca_kindOf c_ca_kindOf 2 (some FieldType.int) ∈ wt := wt_in (List.mem_of_getElem? (i := 516) (by decide +kernel)) rfl
def y_ca_allowsWeight : MethodName := ⟨"BottleReturn$Catalogue", "allowsWeight", "(II)Z"⟩
abbrev c_ca_allowsWeight : ByteArray := prog_4_method_7_code
theorem w_ca_allowsWeight : Cond.code y_ca_allowsWeight c_ca_allowsWeight 3 (some FieldType.boolean) ∈ wt := wt_in (List.mem_of_getElem? (i := 529) (by decide +kernel)) rfl
def y_ca_allowsWidths : MethodName := ⟨"BottleReturn$Catalogue", "allowsWidths", "(ILBottleReturn$Row;)Z"⟩
abbrev c_ca_allowsWidths : ByteArray := prog_4_method_8_code
theorem w_ca_allowsWidths : Cond.code y_ca_allowsWidths c_ca_allowsWidths 6 (some FieldType.boolean) ∈ wt := wt_in (List.mem_of_getElem? (i := 534) (by decide +kernel)) rfl
def y_co_init : MethodName := ⟨"BottleReturn$Container", "<init>", "()V"⟩
abbrev c_co_init : ByteArray := prog_5_method_1_code
theorem w_co_init : Cond.code y_co_init c_co_init 1 (Option.none : Option Jvm.ClassFile.FieldType) ∈ wt := wt_in (List.mem_of_getElem? (i := 73) (by decide +kernel)) rfl
def y_co_begin : MethodName := ⟨"BottleReturn$Container", "begin", "(II)V"⟩
abbrev c_co_begin : ByteArray := prog_5_method_2_code
theorem w_co_begin : Cond.code y_co_begin c_co_begin 3 (Option.none : Option Jvm.ClassFile.FieldType) ∈ wt := wt_in (List.mem_of_getElem? (i := 446) (by decide +kernel)) rfl
def y_co_forget : MethodName := ⟨"BottleReturn$Container", "forget", "()V"⟩
abbrev c_co_forget : ByteArray := prog_5_method_3_code
theorem w_co_forget : Cond.code y_co_forget c_co_forget 1 (Option.none : Option Jvm.ClassFile.FieldType) ∈ wt := wt_in (List.mem_of_getElem? (i := 271) (by decide +kernel)) rfl
def y_co_rear : MethodName := ⟨"BottleReturn$Container", "rear", "()I"⟩
abbrev c_co_rear : ByteArray := prog_5_method_4_code
theorem w_co_rear : Cond.code y_co_rear c_co_rear 1 (some FieldType.int) ∈ wt := wt_in (List.mem_of_getElem? (i := 291) (by decide +kernel)) rfl
def y_co_isOver : MethodName := ⟨"BottleReturn$Container", "isOver", "(I)Z"⟩
abbrev c_co_isOver : ByteArray := prog_5_method_5_code
theorem w_co_isOver : Cond.code y_co_isOver c_co_isOver 2 (some FieldType.boolean) ∈ wt := wt_in (List.mem_of_getElem? (i := 462) (by decide +kernel)) rfl
def y_jo_init : MethodName := ⟨"BottleReturn$Journal", "<init>", "()V"⟩
abbrev c_jo_init : ByteArray := prog_6_method_1_code
theorem w_jo_init : Cond.code y_jo_init c_jo_init 1 (Option.none : Option Jvm.ClassFile.FieldType) ∈ wt := wt_in (List.mem_of_getElem? (i := 195) (by decide +kernel)) rfl
def y_jo_write : MethodName := ⟨"BottleReturn$Journal", "write", "()Z"⟩
abbrev c_jo_write : ByteArray := prog_6_method_2_code
theorem w_jo_write : Cond.code y_jo_write c_jo_write 1 (some FieldType.boolean) ∈ wt := wt_in (List.mem_of_getElem? (i := 283) (by decide +kernel)) rfl
def y_la_init : MethodName := ⟨"BottleReturn$Latest", "<init>", "()V"⟩
abbrev c_la_init : ByteArray := prog_7_method_1_code
theorem w_la_init : Cond.code y_la_init c_la_init 1 (Option.none : Option Jvm.ClassFile.FieldType) ∈ wt := wt_in (List.mem_of_getElem? (i := 214) (by decide +kernel)) rfl
def y_la_note : MethodName := ⟨"BottleReturn$Latest", "note", "(LBottleReturn$Row;)V"⟩
abbrev c_la_note : ByteArray := prog_7_method_2_code
theorem w_la_note : Cond.code y_la_note c_la_note 2 (Option.none : Option Jvm.ClassFile.FieldType) ∈ wt := wt_in (List.mem_of_getElem? (i := 566) (by decide +kernel)) rfl
def y_la_areAllLike : MethodName := ⟨"BottleReturn$Latest", "areAllLike", "(LBottleReturn$Row;)Z"⟩
abbrev c_la_areAllLike : ByteArray := prog_7_method_3_code
theorem w_la_areAllLike : Cond.code y_la_areAllLike c_la_areAllLike 2 (some FieldType.boolean) ∈ wt := wt_in (List.mem_of_getElem? (i := 558) (by decide +kernel)) rfl
def y_la_isLike : MethodName := ⟨"BottleReturn$Latest", "isLike", "(LBottleReturn$Row;)Z"⟩
abbrev c_la_isLike : ByteArray := prog_7_method_4_code
theorem w_la_isLike : Cond.code y_la_isLike c_la_isLike 3 (some FieldType.boolean) ∈ wt := wt_in (List.mem_of_getElem? (i := 562) (by decide +kernel)) rfl
def y_ro_init : MethodName := ⟨"BottleReturn$Row", "<init>", "(I)V"⟩
abbrev c_ro_init : ByteArray := prog_8_method_1_code
theorem w_ro_init : Cond.code y_ro_init c_ro_init 2 (Option.none : Option Jvm.ClassFile.FieldType) ∈ wt := wt_in (List.mem_of_getElem? (i := 79) (by decide +kernel)) rfl
def y_ro_isFull : MethodName := ⟨"BottleReturn$Row", "isFull", "()Z"⟩
abbrev c_ro_isFull : ByteArray := prog_8_method_2_code
theorem w_ro_isFull : Cond.code y_ro_isFull c_ro_isFull 1 (some FieldType.boolean) ∈ wt := wt_in (List.mem_of_getElem? (i := 471) (by decide +kernel)) rfl
def y_ro_take : MethodName := ⟨"BottleReturn$Row", "take", "(I)Z"⟩
abbrev c_ro_take : ByteArray := prog_8_method_3_code
theorem w_ro_take : Cond.code y_ro_take c_ro_take 2 (some FieldType.boolean) ∈ wt := wt_in (List.mem_of_getElem? (i := 467) (by decide +kernel)) rfl
def y_ro_isUniform : MethodName := ⟨"BottleReturn$Row", "isUniform", "()Z"⟩
abbrev c_ro_isUniform : ByteArray := prog_8_method_4_code
theorem w_ro_isUniform : Cond.code y_ro_isUniform c_ro_isUniform 2 (some FieldType.boolean) ∈ wt := wt_in (List.mem_of_getElem? (i := 525) (by decide +kernel)) rfl
def y_vo_init : MethodName := ⟨"BottleReturn$Vouchers", "<init>", "()V"⟩
abbrev c_vo_init : ByteArray := prog_9_method_1_code
theorem w_vo_init : Cond.code y_vo_init c_vo_init 1 (Option.none : Option Jvm.ClassFile.FieldType) ∈ wt := wt_in (List.mem_of_getElem? (i := 165) (by decide +kernel)) rfl
def y_vo_isFull : MethodName := ⟨"BottleReturn$Vouchers", "isFull", "()Z"⟩
abbrev c_vo_isFull : ByteArray := prog_9_method_2_code
theorem w_vo_isFull : Cond.code y_vo_isFull c_vo_isFull 1 (some FieldType.boolean) ∈ wt := wt_in (List.mem_of_getElem? (i := 550) (by decide +kernel)) rfl
def y_vo_issue : MethodName := ⟨"BottleReturn$Vouchers", "issue", "(I)I"⟩
abbrev c_vo_issue : ByteArray := prog_9_method_3_code
theorem w_vo_issue : Cond.code y_vo_issue c_vo_issue 2 (some FieldType.int) ∈ wt := wt_in (List.mem_of_getElem? (i := 596) (by decide +kernel)) rfl
def y_vo_keep : MethodName := ⟨"BottleReturn$Vouchers", "keep", "(IIZ)V"⟩
abbrev c_vo_keep : ByteArray := prog_9_method_4_code
theorem w_vo_keep : Cond.code y_vo_keep c_vo_keep 4 (Option.none : Option Jvm.ClassFile.FieldType) ∈ wt := wt_in (List.mem_of_getElem? (i := 600) (by decide +kernel)) rfl
def y_vo_placeOf : MethodName := ⟨"BottleReturn$Vouchers", "placeOf", "(I)I"⟩
abbrev c_vo_placeOf : ByteArray := prog_9_method_5_code
theorem w_vo_placeOf : Cond.code y_vo_placeOf c_vo_placeOf 3 (some FieldType.int) ∈ wt := wt_in (List.mem_of_getElem? (i := 618) (by decide +kernel)) rfl
def y_vo_payOut : MethodName := ⟨"BottleReturn$Vouchers", "payOut", "(I)I"⟩
abbrev c_vo_payOut : ByteArray := prog_9_method_6_code
theorem w_vo_payOut : Cond.code y_vo_payOut c_vo_payOut 2 (some FieldType.int) ∈ wt := wt_in (List.mem_of_getElem? (i := 622) (by decide +kernel)) rfl
def y_vo_forgetRedeemed : MethodName := ⟨"BottleReturn$Vouchers", "forgetRedeemed", "()I"⟩
abbrev c_vo_forgetRedeemed : ByteArray := prog_9_method_7_code
theorem w_vo_forgetRedeemed : Cond.code y_vo_forgetRedeemed c_vo_forgetRedeemed 3 (some FieldType.int) ∈ wt := wt_in (List.mem_of_getElem? (i := 633) (by decide +kernel)) rfl
def y_vo_firstDigits : MethodName := ⟨"BottleReturn$Vouchers", "firstDigits", "(I)I"⟩
abbrev c_vo_firstDigits : ByteArray := prog_9_method_8_code
theorem w_vo_firstDigits : Cond.code y_vo_firstDigits c_vo_firstDigits 2 (some FieldType.int) ∈ wt := wt_in (List.mem_of_getElem? (i := 675) (by decide +kernel)) rfl
def y_vo_lastDigits : MethodName := ⟨"BottleReturn$Vouchers", "lastDigits", "(I)I"⟩
abbrev c_vo_lastDigits : ByteArray := prog_9_method_9_code
theorem w_vo_lastDigits : Cond.code y_vo_lastDigits c_vo_lastDigits 5 (some FieldType.int) ∈ wt := wt_in (List.mem_of_getElem? (i := 679) (by decide +kernel)) rfl
def y_l_contour : MethodName := ⟨"BottleReturnLaw", "contour", "(LBottleReturn;IIII)I"⟩
abbrev c_l_contour : ByteArray := method_3_code
theorem w_l_contour : Cond.codeWith y_l_contour c_l_contour 6 (some FieldType.int) [(0, 9, 12, 13), (0, 9, 16, 15)] ∈ wt := wt_in (List.mem_of_getElem? (i := 309) (by decide +kernel)) rfl
def y_l_kind : MethodName := ⟨"BottleReturnLaw", "kind", "(LBottleReturn;IIIIIII[J)I"⟩
abbrev c_l_kind : ByteArray := method_4_code
theorem w_l_kind : Cond.codeWith y_l_kind c_l_kind 10 (some FieldType.int) [(0, 20, 23, 13), (0, 20, 27, 15)] ∈ wt := wt_in (List.mem_of_getElem? (i := 409) (by decide +kernel)) rfl
def y_l_enter : MethodName := ⟨"BottleReturnLaw", "enter", "(LBottleReturn;I[J)I"⟩
abbrev c_l_enter : ByteArray := method_5_code
theorem w_l_enter : Cond.codeWith y_l_enter c_l_enter 4 (some FieldType.int) [(0, 9, 12, 13), (0, 9, 15, 15)] ∈ wt := wt_in (List.mem_of_getElem? (i := 433) (by decide +kernel)) rfl
def y_l_code : MethodName := ⟨"BottleReturnLaw", "code", "(LBottleReturn;I[J)I"⟩
abbrev c_l_code : ByteArray := method_6_code
theorem w_l_code : Cond.codeWith y_l_code c_l_code 4 (some FieldType.int) [(0, 16, 19, 13), (0, 16, 22, 15)] ∈ wt := wt_in (List.mem_of_getElem? (i := 450) (by decide +kernel)) rfl
def y_l_width : MethodName := ⟨"BottleReturnLaw", "width", "(LBottleReturn;I[J)I"⟩
abbrev c_l_width : ByteArray := method_7_code
theorem w_l_width : Cond.codeWith y_l_width c_l_width 4 (some FieldType.int) [(0, 16, 19, 13), (0, 16, 22, 15)] ∈ wt := wt_in (List.mem_of_getElem? (i := 474) (by decide +kernel)) rfl
def y_l_weigh : MethodName := ⟨"BottleReturnLaw", "weigh", "(LBottleReturn;I[J)I"⟩
abbrev c_l_weigh : ByteArray := method_8_code
theorem w_l_weigh : Cond.codeWith y_l_weigh c_l_weigh 4 (some FieldType.int) [(0, 16, 19, 13), (0, 16, 22, 15)] ∈ wt := wt_in (List.mem_of_getElem? (i := 481) (by decide +kernel)) rfl
def y_l_forward : MethodName := ⟨"BottleReturnLaw", "forward", "(LBottleReturn;I[J)I"⟩
abbrev c_l_forward : ByteArray := method_9_code
theorem w_l_forward : Cond.codeWith y_l_forward c_l_forward 4 (some FieldType.int) [(0, 9, 12, 13), (0, 9, 15, 15)] ∈ wt := wt_in (List.mem_of_getElem? (i := 488) (by decide +kernel)) rfl
def y_l_back : MethodName := ⟨"BottleReturnLaw", "back", "(LBottleReturn;I[J)I"⟩
abbrev c_l_back : ByteArray := method_10_code
theorem w_l_back : Cond.codeWith y_l_back c_l_back 4 (some FieldType.int) [(0, 9, 12, 13), (0, 9, 15, 15)] ∈ wt := wt_in (List.mem_of_getElem? (i := 572) (by decide +kernel)) rfl
def y_l_voucher : MethodName := ⟨"BottleReturnLaw", "voucher", "(LBottleReturn;[J)I"⟩
abbrev c_l_voucher : ByteArray := method_11_code
theorem w_l_voucher : Cond.codeWith y_l_voucher c_l_voucher 3 (some FieldType.int) [(0, 8, 11, 13)] ∈ wt := wt_in (List.mem_of_getElem? (i := 588) (by decide +kernel)) rfl
def y_l_give : MethodName := ⟨"BottleReturnLaw", "give", "(LBottleReturn;[J)I"⟩
abbrev c_l_give : ByteArray := method_12_code
theorem w_l_give : Cond.codeWith y_l_give c_l_give 3 (some FieldType.int) [(0, 8, 11, 13)] ∈ wt := wt_in (List.mem_of_getElem? (i := 603) (by decide +kernel)) rfl
def y_l_redeem : MethodName := ⟨"BottleReturnLaw", "redeem", "(LBottleReturn;I[J)I"⟩
abbrev c_l_redeem : ByteArray := method_13_code
theorem w_l_redeem : Cond.codeWith y_l_redeem c_l_redeem 4 (some FieldType.int) [(0, 9, 12, 13), (0, 9, 15, 15)] ∈ wt := wt_in (List.mem_of_getElem? (i := 610) (by decide +kernel)) rfl
def y_l_clear : MethodName := ⟨"BottleReturnLaw", "clear", "(LBottleReturn;[J)I"⟩
abbrev c_l_clear : ByteArray := method_14_code
theorem w_l_clear : Cond.codeWith y_l_clear c_l_clear 3 (some FieldType.int) [(0, 8, 11, 13)] ∈ wt := wt_in (List.mem_of_getElem? (i := 625) (by decide +kernel)) rfl
def y_l_empty : MethodName := ⟨"BottleReturnLaw", "empty", "(LBottleReturn;II[J)I"⟩
abbrev c_l_empty : ByteArray := method_15_code
theorem w_l_empty : Cond.codeWith y_l_empty c_l_empty 5 (some FieldType.int) [(0, 10, 13, 13), (0, 10, 17, 15)] ∈ wt := wt_in (List.mem_of_getElem? (i := 636) (by decide +kernel)) rfl
def y_l_service : MethodName := ⟨"BottleReturnLaw", "service", "(LBottleReturn;[J)I"⟩
abbrev c_l_service : ByteArray := method_16_code
theorem w_l_service : Cond.codeWith y_l_service c_l_service 3 (some FieldType.int) [(0, 15, 18, 13)] ∈ wt := wt_in (List.mem_of_getElem? (i := 643) (by decide +kernel)) rfl
def y_l_cut : MethodName := ⟨"BottleReturnLaw", "cut", "(LBottleReturn;I)I"⟩
abbrev c_l_cut : ByteArray := method_17_code
theorem w_l_cut : Cond.codeWith y_l_cut c_l_cut 3 (some FieldType.int) [(0, 5, 8, 15)] ∈ wt := wt_in (List.mem_of_getElem? (i := 650) (by decide +kernel)) rfl
def y_l_check : MethodName := ⟨"BottleReturnLaw", "check", "(LBottleReturn;II[J)I"⟩
abbrev c_l_check : ByteArray := method_18_code
theorem w_l_check : Cond.codeWith y_l_check c_l_check 5 (some FieldType.int) [(0, 17, 20, 15)] ∈ wt := wt_in (List.mem_of_getElem? (i := 657) (by decide +kernel)) rfl
def y_l_about : MethodName := ⟨"BottleReturnLaw", "about", "(LBottleReturn;II[J)I"⟩
abbrev c_l_about : ByteArray := method_19_code
theorem w_l_about : Cond.codeWith y_l_about c_l_about 5 (some FieldType.int) [(0, 10, 13, 15)] ∈ wt := wt_in (List.mem_of_getElem? (i := 667) (by decide +kernel)) rfl
def y_l_container : MethodName := ⟨"BottleReturnLaw", "container", "(LBottleReturn;II[J)I"⟩
abbrev c_l_container : ByteArray := method_20_code
theorem w_l_container : Cond.codeWith y_l_container c_l_container 5 (some FieldType.int) [(0, 10, 13, 15)] ∈ wt := wt_in (List.mem_of_getElem? (i := 688) (by decide +kernel)) rfl
def y_l_bin : MethodName := ⟨"BottleReturnLaw", "bin", "(LBottleReturn;II[J)I"⟩
abbrev c_l_bin : ByteArray := method_21_code
theorem w_l_bin : Cond.codeWith y_l_bin c_l_bin 5 (some FieldType.int) [(0, 10, 13, 15)] ∈ wt := wt_in (List.mem_of_getElem? (i := 699) (by decide +kernel)) rfl
def y_l_total : MethodName := ⟨"BottleReturnLaw", "total", "(LBottleReturn;I[J)I"⟩
abbrev c_l_total : ByteArray := method_22_code
theorem w_l_total : Cond.codeWith y_l_total c_l_total 4 (some FieldType.int) [(0, 9, 12, 15)] ∈ wt := wt_in (List.mem_of_getElem? (i := 706) (by decide +kernel)) rfl
def y_l_law : MethodName := ⟨"BottleReturnLaw", "law", "([I)Z"⟩
end
section
/-! The flat memory of the class and of the reference: f_gI z k i j: the int at place j of the object i of kind k; f_gR z j: which container the belt's place j holds; f_gO z: the law's out[0]. And the small words that the pure functions are made of. -/
abbrev fST : Type := (Nat → Nat → Nat → Int32) × (Nat → Nat) × Int64
def f_gI (z : fST) (k i j : Nat) : Int32 := z.1 k i j
def f_pI (z : fST) (k i j : Nat) (v : Int32) : fST := (fun a b c => if a = k ∧ b = i ∧ c = j then v else z.1 a b c, z.2)
def f_gR (z : fST) (j : Nat) : Nat := z.2.1 j
def f_pR (z : fST) (j n : Nat) : fST := (z.1, fun a => if a = j then n else z.2.1 a, z.2.2)
def f_gO (z : fST) : Int64 := z.2.2
def f_pO (z : fST) (v : Int64) : fST := (z.1, z.2.1, v)
def f_ix (x : Int32) : Nat := x.toNatClampNeg
def f_ib (x : Int32) (n : Nat) : Bool := decide (¬ (x < 0 ∨ n ≤ x.toNatClampNeg))
def f_bz (x : Int32) : Bool := decide (x = 0 ∨ x = 1)
def f_gd {α : Type} (b : Bool) (r : Option α) : Option α := if b = true then r else none
def f_bd {α β : Type} (x : Option (α × fST)) (f : α → fST → Option β) : Option β := match x with
  | none => none
  | some q => f q.1 q.2
def f_bx {α β : Type} (x : Option ((α ⊕ Nat) × fST)) (f : α → fST → Option β) (g : Nat → fST → Option β) : Option β := match x with
  | none => none
  | some (.inl v, z) => f v z
  | some (.inr n, z) => g n z
def f_cz {β : Type} (r : Option Nat) (a : β) (f : Nat → β) : β := match r with
  | none => a
  | some i => f i
def f_it {α β : Type} (f : (α → Option β) → α → Option β) : Nat → α → Option β
  | 0, _ => none
  | n + 1, v => f (f_it f n) v
def f_us (x y : Int32) : Int32 := (x.toUInt32 >>> (y.toUInt32 &&& Int32.toUInt32 31)).toInt32
def f_ab (x : Int32) : Int32 := if 0 ≤ x then x else 0 - x
def f_cpL (z : fST) (i : Nat) : fST := (fun a b c => if a = 25 ∧ b = 0 ∧ c < 8 then z.1 15 i c else z.1 a b c, z.2)
def f_ln (i : Nat) : Nat := if i < 16 then 3 else 8
theorem f_gd_some {α : Type} {b : Bool} {r : Option α} {x : α} (h : f_gd b r = some x) : b = true ∧ r = some x := by
  unfold f_gd at h
  split at h
  · exact ⟨by assumption, h⟩
  · cases h
theorem f_bd_some {α β : Type} {x : Option (α × fST)} {f : α → fST → Option β} {y : β} (h : f_bd x f = some y) : ∃ v z, x = some (v, z) ∧ f v z = some y := by
  cases x with
  | none => cases h
  | some q => exact ⟨q.1, q.2, rfl, h⟩
theorem f_bx_some {α β : Type} {x : Option ((α ⊕ Nat) × fST)} {f : α → fST → Option β} {g : Nat → fST → Option β} {y : β} (h : f_bx x f g = some y) : (∃ v z, x = some (.inl v, z) ∧ f v z = some y) ∨ ∃ n z, x = some (.inr n, z) ∧ g n z = some y := by
  cases x with
  | none => cases h
  | some q =>
    obtain ⟨a, z⟩ := q
    cases a with
    | inl v => exact Or.inl ⟨v, z, rfl, h⟩
    | inr n => exact Or.inr ⟨n, z, rfl, h⟩
theorem f_cz_n {β : Type} {a : β} {f : Nat → β} {r : β} (h : f_cz none a f = r) : a = r := h
theorem f_cz_s {β : Type} {a : β} {f : Nat → β} {r : β} {i : Nat} (h : f_cz (some i) a f = r) : f i = r := h
theorem f_it_s {α β : Type} {f : (α → Option β) → α → Option β} {n : Nat} {v : α} {r : Option β} (h : f_it f (n + 1) v = r) : f (f_it f n) v = r := h
theorem f_ib_in {x : Int32} {n : Nat} (h : f_ib x n = true) : vp_in x n := (of_decide_eq_true h : ¬ (x < 0 ∨ n ≤ x.toNatClampNeg))
theorem f_ib_lt {x : Int32} {n : Nat} (h : f_ib x n = true) : f_ix x < n := Nat.not_le.mp fun q => (of_decide_eq_true h : ¬ (x < 0 ∨ n ≤ x.toNatClampNeg)) (Or.inr q)
theorem f_bz_or {x : Int32} (h : f_bz x = true) : x = 0 ∨ x = 1 := (of_decide_eq_true h : x = 0 ∨ x = 1)
def f_ob (k : Nat) : Option Nat := if k = 0 then some 0 else if k = 1 then some 1 else if k = 11 then some 2 else if k = 13 then some 3 else if k = 14 then some 4 else if k = 16 then some 5 else if k = 19 then some 6 else if k = 23 then some 7 else if k = 24 then some 8 else if k = 30 then some 9 else none
def f_nf (k : Nat) : Nat := if k = 0 then 12 else if k = 1 then 8 else if k = 11 then 3 else if k = 13 then 9 else if k = 14 then 2 else if k = 16 then 2 else if k = 19 then 6 else if k = 23 then 3 else if k = 24 then 2 else if k = 30 then 26 else 0
def f_ft (k j : Nat) : Option (Nat × Nat) := if k = 0 then (if j = 0 then some (1, 0) else if j = 1 then some (11, 0) else if j = 2 then some (16, 0) else if j = 3 then some (19, 0) else if j = 4 then some (23, 0) else if j = 5 then some (24, 0) else if j = 6 then some (26, 0) else none) else if k = 1 then (if j = 0 then some (2, 0) else if j = 1 then some (3, 0) else if j = 2 then some (4, 0) else if j = 3 then some (5, 0) else if j = 4 then some (6, 0) else if j = 5 then some (7, 0) else if j = 6 then some (8, 0) else if j = 7 then some (10, 0) else none) else if k = 11 then (if j = 0 then some (12, 0) else none) else if k = 13 then (if j = 0 then some (14, 0) else if j = 1 then some (14, 16) else none) else if k = 14 then (if j = 0 then some (15, 0) else none) else if k = 16 then (if j = 0 then some (17, 0) else if j = 1 then some (18, 0) else none) else if k = 19 then (if j = 0 then some (20, 0) else if j = 1 then some (21, 0) else if j = 2 then some (22, 0) else none) else if k = 23 then (none) else if k = 24 then (if j = 0 then some (25, 0) else none) else if k = 30 then (if j = 0 then some (31, 0) else if j = 1 then some (32, 0) else if j = 2 then some (33, 0) else if j = 3 then some (34, 0) else if j = 6 then some (35, 0) else if j = 7 then some (36, 0) else if j = 9 then some (37, 0) else if j = 10 then some (38, 0) else if j = 11 then some (39, 0) else if j = 14 then some (40, 0) else if j = 20 then some (41, 0) else none) else none
def f_at (k : Nat) : Nat := if k = 12 then 3 else if k = 8 then 4 else if k = 50 then 2 else if k = 22 ∨ k = 39 then 1 else 0
def f_al (k i : Nat) : Nat := if k = 15 then f_ln i else if k = 2 then 40 else if k = 3 then 40 else if k = 4 then 40 else if k = 5 then 40 else if k = 6 then 40 else if k = 7 then 40 else if k = 9 then 8 else if k = 10 then 8 else if k = 17 then 3 else if k = 18 then 3 else if k = 20 then 60 else if k = 21 then 60 else if k = 22 then 60 else if k = 25 then 8 else if k = 26 then 10 else if k = 31 then 64 else if k = 32 then 8 else if k = 33 then 240 else if k = 34 then 1200 else if k = 35 then 3 else if k = 36 then 3 else if k = 37 then 60 else if k = 38 then 60 else if k = 39 then 60 else if k = 40 then 24 else if k = 41 then 10 else 0
end
section
/-! Which objects there are: kinds 0 to 26 the class's, 30 to 41 the reference's, 50 the law's out. f_cnt: how many of a kind. f_cell: what each of them holds, read off the flat memory. -/
def f_cnt (k : Nat) : Nat := if k = 9 then 8 else if k = 13 then 16 else if k = 14 ∨ k = 15 then 32 else if k < 27 ∨ (30 ≤ k ∧ k < 42) ∨ k = 50 then 1 else 0
def f_en : List (Nat × Nat) := (List.range 51).flatMap fun k => (List.range (f_cnt k)).map fun i => (k, i)
theorem f_en_nd : f_en.Nodup := by decide +kernel
theorem f_en_mem {k i : Nat} (hk : k < 51) (hi : i < f_cnt k) : (k, i) ∈ f_en := List.mem_flatMap.mpr ⟨k, List.mem_range.mpr hk, List.mem_map.mpr ⟨i, List.mem_range.mpr hi, rfl⟩⟩
theorem f_en_lt {q : Nat × Nat} (h : q ∈ f_en) : q.2 < f_cnt q.1 := by
  obtain ⟨k, -, h⟩ := List.mem_flatMap.mp h
  obtain ⟨i, hi, rfl⟩ := List.mem_map.mp h
  exact List.mem_range.mp hi
def f_fv (L : Nat → Nat → Nat) (z : fST) (k i j : Nat) : Value := match f_ft k j with
  | none => .int (f_gI z k i j)
  | some q => .ref (L q.1 (i + q.2))
def f_cell (L : Nat → Nat → Nat) (Ar : Nat → ClassId) (z : fST) (k i : Nat) : va_E := match f_ob k with
  | some ci => .inr (ci, (List.range (f_nf k)).map (f_fv L z k i))
  | none => match f_at k with
    | 0 => .inl (Ar 0, f_al k i, .inl (f_gI z k i))
    | 1 => .inl (Ar 1, f_al k i, .inl (f_gI z k i))
    | 2 => .inl (Ar 2, 1, .inr (.inl (fun _ => f_gO z)))
    | 3 => .inl (Ar 3, 16, .inr (.inr (.inr (.inr (fun j => some (L 13 (f_gR z j)))))))
    | _ => .inl (Ar 4, 8, .inr (.inr (.inr (.inr (fun j => some (L 9 j))))))
def f_ws (L : Nat → Nat → Nat) (Ar : Nat → ClassId) (z : fST) : va_W := f_en.map fun q => (L q.1 q.2, f_cell L Ar z q.1 q.2)
def f_A (b0 : Nat) : Nat → Prop := fun q => b0 ≤ q
/-- the addresses: apart, and none below b0 -/
def f_L (L : Nat → Nat → Nat) (b0 : Nat) : Prop := (∀ q ∈ f_en, ∀ r ∈ f_en, L q.1 q.2 = L r.1 r.2 → q = r) ∧ ∀ q ∈ f_en, b0 ≤ L q.1 q.2
def f_tys (Ar : Nat → ClassId) : List (ClassId × FieldType) := [(Ar 0, .int), (Ar 1, .boolean), (Ar 2, .long), (Ar 3, .object "BottleReturn$Container"), (Ar 4, .array .int)]
def f_K (Ar : Nat → ClassId) (D : va_G) (U : State) : Prop := va_K D vwCl (f_tys Ar) U
def f_W (L : Nat → Nat → Nat) (Ar : Nat → ClassId) (D : va_G) (z : fST) (H : Heap) : Prop := va_P D vwCl (f_ws L Ar z) H
def f_exc : Nat → String
  | 1 => "java/lang/IllegalStateException"
  | _ => "java/lang/IllegalArgumentException"
/-- what a throw reads of java.lang.Throwable's statics: they lie below b0, and nobody writes there -/
def f_zw : List Cond := [.isRef (.static "java/lang/Throwable" "UNASSIGNED_STACK" "[Ljava/lang/StackTraceElement;"), .isRef (.static "java/lang/Throwable" "SUPPRESSED_SENTINEL" "Ljava/util/List;"), .laysStatic "java/lang/Throwable" "UNASSIGNED_STACK" "[Ljava/lang/StackTraceElement;", .laysStatic "java/lang/Throwable" "SUPPRESSED_SENTINEL" "Ljava/util/List;"]
def f_Z0 (b0 : Nat) (U : State) (H : Heap) : Prop := ∀ (args : Array Value) (U' : State), U.vm.Alike U'.vm → (∀ q : Nat, q < b0 → U'.heap[q]? = H[q]?) → ∀ w ∈ f_zw, w.before args U' = true
/-- words that stay true as the tables grow warmer, though they are none of wt's: a nest mate's call, and what catches what -/
def f_nM : Cond := .methodLinkNest "BottleReturn$Catalogue" 56 ⟨"BottleReturn", "isWithin", "(III)Z"⟩ "BottleReturn"
def f_N (U : State) : Prop := va_Nw f_nM U ∧ va_Nw (.castable "java/lang/IllegalStateException" "java/lang/IllegalStateException") U ∧ va_Nw (.castable "java/lang/IllegalArgumentException" "java/lang/IllegalArgumentException") U ∧ va_Nc "java/lang/IllegalArgumentException" "java/lang/IllegalStateException" U
theorem f_N.moved {u U : State} (hW : u.WarmedH U.vm) (h : f_N u) : f_N U := ⟨va_Nw.warmM hW h.1, va_Nw.warmC hW h.2.1, va_Nw.warmC hW h.2.2.1, va_Nc.moved hW.alike h.2.2.2⟩
def f_Z (b0 : Nat) (U : State) (H : Heap) : Prop := f_Z0 b0 U H ∧ f_N U
theorem f_Z.moved {b0 : Nat} {u U : State} {H : Heap} (hW : u.WarmedH U.vm) (h : f_Z b0 u H) : f_Z b0 U H := ⟨fun a U' h1 h2 => h.1 a U' (hW.alike.trans h1) h2, h.2.moved hW⟩
theorem f_Z.kept {b0 : Nat} {U : State} {H H1 : Heap} (h : f_Z b0 U H) (hq : ∀ q : Nat, q < b0 → H1[q]? = H[q]?) : f_Z b0 U H1 := ⟨fun a U' h1 h2 => h.1 a U' h1 (fun q hq' => (h2 q hq').trans (hq q hq')), h.2⟩
section FW
variable {L : Nat → Nat → Nat} {Ar : Nat → ClassId} {D : va_G} {b0 : Nat} {z z' : fST} {H : Heap}
theorem f_pos {k i : Nat} (h : (k, i) ∈ f_en) : ∃ q0 : Nat, f_en[q0]? = some (k, i) ∧ ∀ z : fST, (f_ws L Ar z)[q0]? = some (L k i, f_cell L Ar z k i) := by
  obtain ⟨q0, hq⟩ := List.getElem?_of_mem h
  exact ⟨q0, hq, fun z => by simp [f_ws, hq]⟩
theorem f_D (h : f_L L b0) (z : fST) : va_D (f_A b0) (f_ws L Ar z) := by
  have key : ∀ (k : Nat) (q : Nat × va_E), (f_ws L Ar z)[k]? = some q → ∃ r, f_en[k]? = some r ∧ q.1 = L r.1 r.2 := by
    intro k q hq
    unfold f_ws at hq
    rw [List.getElem?_map] at hq
    cases hr : f_en[k]? with
    | none => rw [hr] at hq; cases hq
    | some r => rw [hr] at hq; cases hq; exact ⟨r, rfl, rfl⟩
  refine ⟨fun i j p q hp hq e => ?_, fun k q hq => ?_⟩
  · obtain ⟨r1, h1, e1⟩ := key i p hp
    obtain ⟨r2, h2, e2⟩ := key j q hq
    have hrr := h.1 r1 (List.mem_of_getElem? h1) r2 (List.mem_of_getElem? h2) (by rw [← e1, ← e2, e])
    subst hrr
    have hlt : i < f_en.length := (List.getElem?_eq_some_iff.mp h1).1
    exact (List.getElem?_inj hlt f_en_nd).mp (h1.trans h2.symm)
  · obtain ⟨r, h1, e1⟩ := key k q hq
    rw [e1]
    exact h.2 r (List.mem_of_getElem? h1)
theorem f_set {q0 k i : Nat} {E : va_E} (h : f_en[q0]? = some (k, i)) (hc : f_cell L Ar z' k i = E) (hne : ∀ q ∈ f_en, q ≠ (k, i) → f_cell L Ar z' q.1 q.2 = f_cell L Ar z q.1 q.2) : (f_ws L Ar z).set q0 (L k i, E) = f_ws L Ar z' := by
  apply List.ext_getElem?
  intro j
  by_cases hj : j = q0
  · subst hj
    have hlt : j < (f_ws L Ar z).length := by
      unfold f_ws
      rw [List.length_map]
      exact (List.getElem?_eq_some_iff.mp h).1
    rw [List.getElem?_set_self hlt]
    simp [f_ws, h, hc]
  · rw [List.getElem?_set_ne (Ne.symm hj)]
    simp only [f_ws, List.getElem?_map]
    cases hr : f_en[j]? with
    | none => rfl
    | some r =>
      have hn : r ≠ (k, i) := by
        intro e
        subst e
        exact hj ((List.getElem?_inj (List.getElem?_eq_some_iff.mp hr).1 f_en_nd).mp (hr.trans h.symm))
      simp only [Option.map_some]
      rw [hne r (List.mem_of_getElem? hr) hn]
theorem f_gI_ne {k i j k' i' : Nat} {v : Int32} (h : (k', i') ≠ (k, i)) : f_gI (f_pI z k i j v) k' i' = f_gI z k' i' := by
  funext a
  simp only [f_gI, f_pI]
  rw [if_neg]
  rintro ⟨rfl, rfl, -⟩
  exact h rfl
theorem f_cell_pI {k i j : Nat} {v : Int32} {q : Nat × Nat} (h : q ≠ (k, i)) : f_cell L Ar (f_pI z k i j v) q.1 q.2 = f_cell L Ar z q.1 q.2 := by
  have e := f_gI_ne (z := z) (j := j) (v := v) (k := k) (i := i) (k' := q.1) (i' := q.2) h
  have e2 : f_fv L (f_pI z k i j v) q.1 q.2 = f_fv L z q.1 q.2 := by
    funext a
    simp only [f_fv]
    rw [e]
  unfold f_cell
  rw [e, e2]
  rfl
end FW
end
section
/-! The method contract of this proof (f_C): from any state whose heap holds the flat memory z, the method ends with the outcome o, and the heap holds z'. Its room: d frames, u new cells of six slots. And what ends a walk: a return, a throw. -/
def f_rm (d u : Nat) : Room := { frames := d, cells := u, slots := 6 * u, locals := 40 * d }
def f_Pc (L : Nat → Nat → Nat) (Ar : Nat → ClassId) (D : va_G) (b0 : Nat) (as : List Value) (z : fST) : Array Value → State → Prop :=
  fun v U => v = as.toArray ∧ b0 ≤ U.heap.size ∧ f_K Ar D U ∧ f_Z b0 U U.heap ∧ f_W L Ar D z U.heap
def f_oc (o : Option Value ⊕ Nat) (st : State) (oc : Outcome) (t : State) : Prop := match o with
  | .inl v => oc = .returned v
  | .inr n => ∃ (q : Addr) (ce : Cell), oc = .threw q ∧ t.heap[q]? = some ce ∧ ce.vm = .none ∧ st.vm.findClass (f_exc n) = some ce.cls
def f_Qc (L : Nat → Nat → Nat) (Ar : Nat → ClassId) (D : va_G) (b0 u : Nat) (o : Option Value ⊕ Nat) (z' : fST) : Array Value → State → Outcome → State → Prop :=
  fun _ st oc t => f_oc o st oc t ∧ f_W L Ar D z' t.heap ∧ va_F (f_A b0) st t ∧ ∃ Lc : List Loc, st.WarmedH t.vm ∧ st.sameButNew ({ t with vm := st.vm } : State) Lc u (6 * u) ∧ ∀ q ∈ Lc, b0 ≤ q.base
def f_C (l : Launch) (y : MethodName) (ws : List Cond) (d u : Nat) (L : Nat → Nat → Nat) (Ar : Nat → ClassId) (D : va_G) (b0 : Nat) (as : List Value) (z : fST) (o : Option Value ⊕ Nat) (z' : fST) : Prop :=
  MetFree l y (headSpec ws (f_rm d u)) (f_Pc L Ar D b0 as z) (fun _ _ _ _ _ => True) (f_Qc L Ar D b0 u o z')
/-- what a walk owes at its end -/
def f_E (below : List Frame) (args : Array Value) (s : State) (L : Nat → Nat → Nat) (Ar : Nat → ClassId) (D : va_G) (b0 u : Nat) (o : Option Value ⊕ Nat) (z' : fST) : State → Prop :=
  fun t => ∃ oc, t.status = .running ∧ Ended t below oc ∧ f_Qc L Ar D b0 u o z' args s oc t
/-- a block of a method: from every heap that holds z, with these locals and this stack -/
def f_B (p : Program) (l : Launch) (e : Env) (R : Room) (s : State) (m : MethodId) (args : Array Value) (below : List Frame) (meth : Method) (c : Code) (L : Nat → Nat → Nat) (Ar : Nat → ClassId) (D : va_G) (b0 nL u : Nat) (Q : State → Prop) (rem pc : Nat) (lv : List (Nat × Value)) (st : List Value) (z : fST) : Prop :=
  ∀ (H : Heap) (locs : List Loc) (ls : Array Slot) (cells slots : Nat), f_W L Ar D z H → va_S (f_A b0) s.heap H locs → lv_has ls nL lv → cells + rem ≤ u → slots + 6 * rem ≤ 6 * u → W p l e R s m args below meth c H locs cells slots Q (F0 m pc ls st)
theorem f_met {l : Launch} {y : MethodName} {ws : List Cond} {d u : Nat} {L : Nat → Nat → Nat} {Ar : Nat → ClassId} {D : va_G} {b0 : Nat} {as : List Value} {z z' : fST} {v : Option Value} (h : f_C l y ws d u L Ar D b0 as z (.inl v) z') :
    Met l y ws (f_rm d u) (f_Pc L Ar D b0 as z) (fun _ st oc t => oc = .returned v ∧ f_W L Ar D z' t.heap ∧ va_F (f_A b0) st t) u (6 * u) (f_A b0) := by
  intro p e ha hc hk s m args below hf happ hP hK
  obtain ⟨n, o, h1, h2, h3, ho, hW, hF, Lc, w1, w2, w3⟩ := h p e ha hc hk s m args below hf happ hP hK
  exact ⟨n, o, h1, h2, h3, ⟨ho, hW, hF⟩, Lc, ⟨⟨v, ho⟩, w1, w2⟩, w3⟩
section FC
variable {p : Program} {l : Launch} {e : Env} {R : Room} {s : State} {m : MethodId} {args : Array Value} {below : List Frame} {meth : Method} {c : Code} {H : Heap} {locs : List Loc} {cells slots : Nat} {Q : State → Prop}
variable {cc : ByteArray} {pc : Nat} {ls : Array Slot} {rest : List Value} {L : Nat → Nat → Nat} {Ar : Nat → ClassId} {D : va_G} {b0 u : Nat} {z z' : fST}
theorem f_endR {v : Option Value} {g : JFrame} (k : W p l e R s m args below meth c H locs u (6 * u) (MQ below (fun _ st oc t => oc = .returned v ∧ f_W L Ar D z' t.heap ∧ va_F (f_A b0) st t) args s u (6 * u) (f_A b0)) g) (hc : cells ≤ u) (hs : slots ≤ 6 * u) :
    W p l e R s m args below meth c H locs cells slots (f_E below args s L Ar D b0 u (.inl v) z') g := by
  refine W.widen hc hs ?_
  intro T hT X
  obtain ⟨t, a1, o, b1, b2, ⟨b3, b4, b5⟩, Lc, ⟨-, w1, w2⟩, w3⟩ := k T hT X
  exact ⟨t, a1, o, b1, b2, b3, b4, b5, Lc, w1, w2, w3⟩
theorem hw_iret {v r : Int32} {ty : FieldType} (hx : p.tables.exec = Jvm.exec) (hb : c.code = cc) (hr : meth.sig.returnType = some ty) (hlk : meth.locks = false) (hn : narrow ty (.int v) = .int v) (hW : f_W L Ar D z H) (hS : va_S (f_A b0) s.heap H locs) (hc : cells ≤ u) (hs : slots ≤ 6 * u) (hd : decode cc pc = .ok (.ireturn, 1)) (hF : some (v, z) = some (r, z')) :
    W p l e R s m args below meth c H locs cells slots (f_E below args s L Ar D b0 u (.inl (some (.int r))) z') (F0 m pc ls [.int v]) := by
  cases hF
  exact f_endR (W.zret hx hb hr hn (fun t ht _ => ⟨rfl, by rw [ht]; exact hW, hS.F ht⟩) hS.2.2 hd hlk) hc hs
theorem hw_vret {r : Unit} (hx : p.tables.exec = Jvm.exec) (hb : c.code = cc) (hr : meth.sig.returnType = none) (hlk : meth.locks = false) (hW : f_W L Ar D z H) (hS : va_S (f_A b0) s.heap H locs) (hc : cells ≤ u) (hs : slots ≤ 6 * u) (hd : decode cc pc = .ok (.return_, 1)) (hF : some ((), z) = some (r, z')) :
    W p l e R s m args below meth c H locs cells slots (f_E below args s L Ar D b0 u (.inl none) z') (F0 m pc ls []) := by
  cases hF
  exact f_endR (W.vret hx hb hr (fun t ht _ => ⟨rfl, by rw [ht]; exact hW, hS.F ht⟩) hS.2.2 hd hlk) hc hs
/-- a reference that may be null: which object of kind k -/
def f_rv (L : Nat → Nat → Nat) (k : Nat) (r : Option Nat) : Value := match r with
  | none => .null
  | some i => .ref (L k i)
theorem hw_aret0 {r : Option Nat} {k : Nat} {ty : FieldType} (hx : p.tables.exec = Jvm.exec) (hb : c.code = cc) (hr : meth.sig.returnType = some ty) (hrt : (∃ n, ty = .object n) ∨ ∃ t, ty = .array t) (hlk : meth.locks = false) (hW : f_W L Ar D z H) (hS : va_S (f_A b0) s.heap H locs) (hc : cells ≤ u) (hs : slots ≤ 6 * u) (hd : decode cc pc = .ok (.areturn, 1)) (hF : some ((none : Option Nat), z) = some (r, z')) :
    W p l e R s m args below meth c H locs cells slots (f_E below args s L Ar D b0 u (.inl (some (f_rv L k r))) z') (F0 m pc ls [.null]) := by
  cases hF
  exact f_endR (W.aret hx hb hr hrt (Or.inl rfl) (fun t ht _ => ⟨rfl, by rw [ht]; exact hW, hS.F ht⟩) hS.2.2 hd hlk) hc hs
theorem hw_aret {r : Option Nat} {k i : Nat} {ty : FieldType} (hx : p.tables.exec = Jvm.exec) (hb : c.code = cc) (hr : meth.sig.returnType = some ty) (hrt : (∃ n, ty = .object n) ∨ ∃ t, ty = .array t) (hlk : meth.locks = false) (hW : f_W L Ar D z H) (hS : va_S (f_A b0) s.heap H locs) (hc : cells ≤ u) (hs : slots ≤ 6 * u) (hd : decode cc pc = .ok (.areturn, 1)) (hF : some (some i, z) = some (r, z')) :
    W p l e R s m args below meth c H locs cells slots (f_E below args s L Ar D b0 u (.inl (some (f_rv L k r))) z') (F0 m pc ls [.ref (L k i)]) := by
  cases hF
  exact f_endR (W.aret hx hb hr hrt (Or.inr ⟨_, rfl⟩) (fun t ht _ => ⟨rfl, by rw [ht]; exact hW, hS.F ht⟩) hS.2.2 hd hlk) hc hs
/-- what comes of a method that may throw -/
def f_oi : Int32 ⊕ Nat → Option Value ⊕ Nat
  | .inl v => .inl (some (.int v))
  | .inr n => .inr n
def f_ov : Unit ⊕ Nat → Option Value ⊕ Nat
  | .inl _ => .inl none
  | .inr n => .inr n
theorem hw_iretX {v : Int32} {r : Int32 ⊕ Nat} {ty : FieldType} (hx : p.tables.exec = Jvm.exec) (hb : c.code = cc) (hr : meth.sig.returnType = some ty) (hlk : meth.locks = false) (hn : narrow ty (.int v) = .int v) (hW : f_W L Ar D z H) (hS : va_S (f_A b0) s.heap H locs) (hc : cells ≤ u) (hs : slots ≤ 6 * u) (hd : decode cc pc = .ok (.ireturn, 1)) (hF : some ((.inl v : Int32 ⊕ Nat), z) = some (r, z')) :
    W p l e R s m args below meth c H locs cells slots (f_E below args s L Ar D b0 u (f_oi r) z') (F0 m pc ls [.int v]) := by
  cases hF
  exact f_endR (W.zret hx hb hr hn (fun t ht _ => ⟨rfl, by rw [ht]; exact hW, hS.F ht⟩) hS.2.2 hd hlk) hc hs
theorem hw_vretX {r : Unit ⊕ Nat} (hx : p.tables.exec = Jvm.exec) (hb : c.code = cc) (hr : meth.sig.returnType = none) (hlk : meth.locks = false) (hW : f_W L Ar D z H) (hS : va_S (f_A b0) s.heap H locs) (hc : cells ≤ u) (hs : slots ≤ 6 * u) (hd : decode cc pc = .ok (.return_, 1)) (hF : some ((.inl () : Unit ⊕ Nat), z) = some (r, z')) :
    W p l e R s m args below meth c H locs cells slots (f_E below args s L Ar D b0 u (f_ov r) z') (F0 m pc ls []) := by
  cases hF
  exact f_endR (W.vret hx hb hr (fun t ht _ => ⟨rfl, by rw [ht]; exact hW, hS.F ht⟩) hS.2.2 hd hlk) hc hs
/-- behind a call that returns -/
theorem hw_go {v : Option Value} {st0 : List Value} {uc : Nat} (hr : va_Run p l e R s m args below meth c H locs cells slots uc (6 * uc) (F0 m pc ls st0) rest (fun st oc t => oc = .returned v ∧ f_W L Ar D z' t.heap ∧ va_F (f_A b0) st t) (f_A b0)) (hS : va_S (f_A b0) s.heap H locs)
    (kk : ∀ (H1 : Heap) (locs1 : List Loc), f_W L Ar D z' H1 → va_S (f_A b0) s.heap H1 locs1 → W p l e R s m args below meth c H1 locs1 (cells + uc) (slots + 6 * uc) Q (F0 m (pc + 3) ls (v.toList ++ rest))) : W p l e R s m args below meth c H locs cells slots Q (F0 m pc ls st0) := by
  intro T hT X
  obtain ⟨v', st₀, t, T', Lc, h0, X', hL, e1, e2, ⟨hv, hw, hz, hk⟩, st⟩ := hr T hT X
  cases hv
  rw [h0] at hz hk
  obtain ⟨t2, a1, b1⟩ := kk T'.heap (locs ++ Lc) (by rw [e1]; exact hw)
    ⟨Nat.le_trans hS.1 (by rw [e1]; exact hz), fun q h1 h2 => by rw [e1, hk q (Nat.lt_of_lt_of_le h1 hS.1) h2]; exact hS.2.1 q h1 h2, fun q hq => by
      rcases List.mem_append.mp hq with h | h
      · exact hS.2.2 q h
      · exact hL q h⟩ T' rfl X'
  exact ⟨t2, st t2 a1, b1⟩
end FC
/-- a method's contract out of the walk of its body -/
theorem f_ofW {l : Launch} {y : MethodName} {ws : List Cond} {d u : Nat} {L : Nat → Nat → Nat} {Ar : Nat → ClassId} {D : va_G} {b0 : Nat} {as : List Value} {z z' : fST} {o : Option Value ⊕ Nat} {cc : ByteArray} {maxL : Nat} {ret : Option FieldType} (hy : plainName y.cls = true) (hcw : Cond.code y cc maxL ret ∈ ws) (hlen : (lg_sl as).length ≤ maxL)
    (body : ∀ (p : Program) (e : Env) (s : State) (m : MethodId) (args : Array Value) (below : List Frame) (meth : Method) (c : Code) (R : Room), R.frames = d → R.locals = 40 * d → R.cells = u → R.slots = 6 * u → p.tables.exec = Jvm.exec → c.code = cc → meth.sig.returnType = ret → meth.locks = false → c.maxLocals = maxL → (∀ x ∈ c.exceptionTable.toList, False) → (∀ w ∈ ws, w.before args s = true) → s.vm.findClass y.cls = some m.cls → f_K Ar D s → f_Z b0 s s.heap → b0 ≤ s.heap.size →
      f_B p l e R s m args below meth c L Ar D b0 maxL u (f_E below args s L Ar D b0 u o z') u 0 (lv_args 0 as) [] z) : f_C l y ws d u L Ar D b0 as z o z' := by
  refine MetFree.of_bodyS (code := cc) (maxLocals := maxL) (ret := ret) hy ?_ ?_
  · intro args s m h hn
    obtain ⟨meth, c, h1, h2, h3, h4, h5, h6, -, -⟩ := Cond.code_spec hn (atoms_spec (ws := ws) h _ hcw)
    exact ⟨meth, c, h1, h2, h3, h4, h5, h6⟩
  · intro p e s m args below meth c s₁ B hml hP _
    obtain ⟨rfl, hsz, hK, hZ, hW⟩ := hP
    have hts := atoms_spec (ws := ws) B.pre
    have hh0 : s₁.heap = s.heap := by rw [B.state]; rfl
    have hemp : c.exceptionTable.isEmpty = true := BodyLoose.noHandlers B (hts _ hcw)
    have hno : ∀ x ∈ c.exceptionTable.toList, False := by
      intro x hx
      rw [Array.isEmpty_iff.mp hemp] at hx
      cases hx
    have hB := body p e s m as.toArray below meth c (headSpec ws (f_rm d u)).room rfl rfl rfl rfl B.exec B.bytes B.returns B.notSynchronized hml hno hts (findClass_of_methodNamed B.named) hK hZ hsz s.heap [] _ 0 0 hW va_S.rf (lv_entry as hlen) (by omega) (by omega)
    rw [← lg_entry_eq (m := m)] at hB
    obtain ⟨t, a1, o', b1, b2, b3⟩ := hB s₁ hh0 (Stand.of_body B)
    exact ⟨t, o', a1, b1, b2, b3⟩
end
section
/-! The rows of the heap, over the flat memory: fields, arrays, the belt's row, the law's out, the script. -/
def f_fl (Ts : List Cond) (own : String) (index k j : Nat) : Prop := ∃ (ci : Nat) (C : String) (T : u_T) (N : Nat), f_ob k = some ci ∧ vwCl[ci]? = some (C, T, N) ∧ f_nf k = N ∧ j < N ∧ (∀ w ∈ u_ws C T N, w ∈ Ts) ∧ (T j).1 = C ∧ Cond.fieldLink own index C (T j).2.1 (T j).2.2.1 ∈ Ts ∧ k < 51
def f_fp (Ts : List Cond) (own : String) (index k j : Nat) (ty : FieldType) : Prop := ∃ (ci : Nat) (C : String) (T : u_T) (N : Nat) (ty0 : Nat → FieldType), f_ob k = some ci ∧ vwCl[ci]? = some (C, T, N) ∧ f_nf k = N ∧ j < N ∧ (∀ w ∈ u_ws C T N, w ∈ Ts) ∧ (T j).1 = C ∧ Cond.fieldLink own index C (T j).2.1 (T j).2.2.1 ∈ Ts ∧ k < 51 ∧ (∀ a, a < N → parseFieldDescriptor (T a).2.2.1 = some (ty0 a)) ∧ (∀ a, a < N → ∀ b, b < N → a ≠ b → (T a).2.1 ≠ (T b).2.1) ∧ (T j).2.2.2 = false ∧ parseFieldDescriptor (T j).2.2.1 = some ty ∧ f_ft k j = none
theorem f_nZ {x : Int32} (h : x = 0 ∨ x = 1) : narrow .boolean (.int x) = .int x := by
  rcases h with rfl | rfl <;> decide +kernel
theorem f_fZ (x : Int32) (h : x = 0 ∨ x = 1) : fits .boolean (.int x) = true := by
  rcases h with rfl | rfl <;> decide +kernel
section HW
variable {p : Program} {l : Launch} {e : Env} {R : Room} {s : State} {m : MethodId} {args : Array Value} {below : List Frame} {meth : Method} {c : Code} {H : Heap} {locs : List Loc} {cells slots : Nat} {Q : State → Prop}
variable {cc : ByteArray} {pc : Nat} {ls : Array Slot} {rest : List Value} {L : Nat → Nat → Nat} {Ar : Nat → ClassId} {D : va_G} {b0 : Nat} {z : fST} {Ts : List Cond} {own : String}
theorem hw_get {k i j n index : Nat} {v : Value} (hx : p.tables.exec = Jvm.exec) (hb : c.code = cc) (hts : ∀ w ∈ Ts, w.before args s = true) (hown : s.vm.findClass own = some m.cls) (hK : f_K Ar D s) (hW : f_W L Ar D z H) (fl : f_fl Ts own index k j) (hcn : f_cnt k = n) (hi : i < n) (hv : f_fv L z k i j = v) (hd : decode cc pc = .ok (.getfield index, 3))
    (kk : W p l e R s m args below meth c H locs cells slots Q (F0 m (pc + 3) ls (v :: rest))) : W p l e R s m args below meth c H locs cells slots Q (F0 m pc ls (.ref (L k i) :: rest)) := by
  subst hcn
  obtain ⟨ci, C, T, N, h1, h2, h3, h4, h5, h6, h7, h8⟩ := fl
  obtain ⟨q0, -, hq⟩ := f_pos (L := L) (Ar := Ar) (f_en_mem h8 hi)
  have he := hq z
  simp only [f_cell, h1] at he
  exact va_get hx hb hts h5 hown hK hW q0 he h2 j h4 (hts _ h7) (fun x hx => by rw [h6] at hx; exact hx) (by simp [h3, h4, hv]) hd kk
theorem hw_put {k i j n index : Nat} {v : Int32} {ty : FieldType} (hx : p.tables.exec = Jvm.exec) (hb : c.code = cc) (hts : ∀ w ∈ Ts, w.before args s = true) (hown : s.vm.findClass own = some m.cls) (hK : f_K Ar D s) (hLi : f_L L b0) (hW : f_W L Ar D z H) (hS : va_S (f_A b0) s.heap H locs) (fp : f_fp Ts own index k j ty) (hn : narrow ty (.int v) = .int v) (hfit : fits ty (.int v) = true) (hcn : f_cnt k = n) (hi : i < n) (hd : decode cc pc = .ok (.putfield index, 3))
    (kk : ∀ (H1 : Heap) (locs1 : List Loc), f_W L Ar D (f_pI z k i j v) H1 → va_S (f_A b0) s.heap H1 locs1 → W p l e R s m args below meth c H1 locs1 cells slots Q (F0 m (pc + 3) ls rest)) : W p l e R s m args below meth c H locs cells slots Q (F0 m pc ls (.int v :: .ref (L k i) :: rest)) := by
  subst hcn
  obtain ⟨ci, C, T, N, ty0, h1, h2, h3, h4, h5, h6, h7, h8, h9, h10, h11, h12, h13⟩ := fp
  obtain ⟨q0, hq0, hq⟩ := f_pos (L := L) (Ar := Ar) (f_en_mem h8 hi)
  have he := hq z
  simp only [f_cell, h1] at he
  refine va_put hx hb hts h5 ty0 h9 h10 hown hK hW (f_D hLi z) hS q0 he h2 j h4 (hts _ h7) (fun x hx => by rw [h6] at hx; exact hx) h11 h12 hn hfit (by simp [h3, h4]) hd (fun H1 locs1 hP1 _ hS1 => kk H1 locs1 ?_ hS1)
  have e : (f_ws L Ar z).set q0 (L k i, .inr (ci, ((List.range (f_nf k)).map (f_fv L z k i)).set j (.int v))) = f_ws L Ar (f_pI z k i j v) := by
    refine f_set hq0 ?_ (fun q _ hne => f_cell_pI hne)
    simp only [f_cell, h1]
    congr 2
    apply List.ext_getElem?
    intro a
    by_cases ha : a = j
    · subst ha
      rw [List.getElem?_set_self (by simp [h3, h4])]
      simp [h3, h4, f_fv, h13, f_gI, f_pI]
    · rw [List.getElem?_set_ne (Ne.symm ha)]
      simp only [List.getElem?_map]
      cases hb : (List.range (f_nf k))[a]? with
      | none => rfl
      | some b =>
        have hba : b = a := by
          have := List.getElem?_eq_some_iff.mp hb
          obtain ⟨h1, h2⟩ := this
          rw [List.getElem_range] at h2
          exact h2.symm
        subst hba
        simp only [Option.map_some, f_fv, f_gI, f_pI]
        rw [if_neg (fun q => ha q.2.2)]
  rw [e] at hP1
  exact hP1
theorem hw_iald {k i n len : Nat} {x : Int32} (hx : p.tables.exec = Jvm.exec) (hb : c.code = cc) (hK : f_K Ar D s) (hW : f_W L Ar D z H) (ha : f_ob k = none ∧ f_at k = 0 ∧ k < 51) (hcn : f_cnt k = n) (hi : i < n) (hlen : f_al k i = len) (hin : f_ib x len = true) (hd : decode cc pc = .ok (.iaload, 1))
    (kk : W p l e R s m args below meth c H locs cells slots Q (F0 m (pc + 1) ls (.int (f_gI z k i (f_ix x)) :: rest))) : W p l e R s m args below meth c H locs cells slots Q (F0 m pc ls (.int x :: .ref (L k i) :: rest)) := by
  subst hcn
  obtain ⟨q0, -, hq⟩ := f_pos (L := L) (Ar := Ar) (f_en_mem ha.2.2 hi)
  have he := hq z
  simp only [f_cell, ha.1, ha.2.1, hlen] at he
  exact va_iald hx hb hK hW q0 0 he rfl (f_ib_in hin) hd kk
theorem hw_zald {k i n len : Nat} {x : Int32} (hx : p.tables.exec = Jvm.exec) (hb : c.code = cc) (hK : f_K Ar D s) (hW : f_W L Ar D z H) (ha : f_ob k = none ∧ f_at k = 1 ∧ k < 51) (hcn : f_cnt k = n) (hi : i < n) (hlen : f_al k i = len) (hin : f_ib x len = true) (hd : decode cc pc = .ok (.baload, 1))
    (kk : W p l e R s m args below meth c H locs cells slots Q (F0 m (pc + 1) ls (.int (f_gI z k i (f_ix x)) :: rest))) : W p l e R s m args below meth c H locs cells slots Q (F0 m pc ls (.int x :: .ref (L k i) :: rest)) := by
  subst hcn
  obtain ⟨q0, -, hq⟩ := f_pos (L := L) (Ar := Ar) (f_en_mem ha.2.2 hi)
  have he := hq z
  simp only [f_cell, ha.1, ha.2.1, hlen] at he
  exact va_zald hx hb hK hW q0 1 he rfl (f_ib_in hin) hd kk
theorem f_updI {k i j : Nat} {v : Int32} : upd (f_gI z k i) j v = f_gI (f_pI z k i j v) k i := by
  funext a
  simp [upd, f_gI, f_pI]
theorem hw_iast {k i n len : Nat} {x v : Int32} (hx : p.tables.exec = Jvm.exec) (hb : c.code = cc) (hK : f_K Ar D s) (hLi : f_L L b0) (hW : f_W L Ar D z H) (hS : va_S (f_A b0) s.heap H locs) (ha : f_ob k = none ∧ f_at k = 0 ∧ k < 51) (hcn : f_cnt k = n) (hi : i < n) (hlen : f_al k i = len) (hin : f_ib x len = true) (hd : decode cc pc = .ok (.iastore, 1))
    (kk : ∀ (H1 : Heap) (locs1 : List Loc), f_W L Ar D (f_pI z k i (f_ix x) v) H1 → va_S (f_A b0) s.heap H1 locs1 → W p l e R s m args below meth c H1 locs1 cells slots Q (F0 m (pc + 1) ls rest)) : W p l e R s m args below meth c H locs cells slots Q (F0 m pc ls (.int v :: .int x :: .ref (L k i) :: rest)) := by
  subst hcn
  obtain ⟨q0, hq0, hq⟩ := f_pos (L := L) (Ar := Ar) (f_en_mem ha.2.2 hi)
  have he := hq z
  simp only [f_cell, ha.1, ha.2.1, hlen] at he
  refine va_iast hx hb hK hW (f_D hLi z) hS q0 0 he rfl (f_ib_in hin) hd (fun H1 locs1 hP1 _ hS1 => kk H1 locs1 ?_ hS1)
  have e : (f_ws L Ar z).set q0 (L k i, .inl (Ar 0, len, .inl (upd (f_gI z k i) (f_ix x) v))) = f_ws L Ar (f_pI z k i (f_ix x) v) := by
    refine f_set hq0 ?_ (fun q _ hne => f_cell_pI hne)
    simp only [f_cell, ha.1, ha.2.1, hlen]
    rw [f_updI]
  show va_P D vwCl (f_ws L Ar (f_pI z k i (f_ix x) v)) H1
  rw [← e]
  exact hP1
theorem hw_zast {k i n len : Nat} {x v : Int32} (hx : p.tables.exec = Jvm.exec) (hb : c.code = cc) (hK : f_K Ar D s) (hLi : f_L L b0) (hW : f_W L Ar D z H) (hS : va_S (f_A b0) s.heap H locs) (ha : f_ob k = none ∧ f_at k = 1 ∧ k < 51) (hcn : f_cnt k = n) (hi : i < n) (hlen : f_al k i = len) (hin : f_ib x len = true) (hv : v = 0 ∨ v = 1) (hd : decode cc pc = .ok (.bastore, 1))
    (kk : ∀ (H1 : Heap) (locs1 : List Loc), f_W L Ar D (f_pI z k i (f_ix x) v) H1 → va_S (f_A b0) s.heap H1 locs1 → W p l e R s m args below meth c H1 locs1 cells slots Q (F0 m (pc + 1) ls rest)) : W p l e R s m args below meth c H locs cells slots Q (F0 m pc ls (.int v :: .int x :: .ref (L k i) :: rest)) := by
  subst hcn
  obtain ⟨q0, hq0, hq⟩ := f_pos (L := L) (Ar := Ar) (f_en_mem ha.2.2 hi)
  have he := hq z
  simp only [f_cell, ha.1, ha.2.1, hlen] at he
  have hvn : vp_nar .boolean v = v := by
    unfold vp_nar
    rw [f_nZ hv]
  refine va_zast hx hb hK hW (f_D hLi z) hS q0 1 he rfl (f_ib_in hin) hd (fun H1 locs1 hP1 _ hS1 => kk H1 locs1 ?_ hS1)
  rw [hvn] at hP1
  have e : (f_ws L Ar z).set q0 (L k i, .inl (Ar 1, len, .inl (upd (f_gI z k i) (f_ix x) v))) = f_ws L Ar (f_pI z k i (f_ix x) v) := by
    refine f_set hq0 ?_ (fun q _ hne => f_cell_pI hne)
    simp only [f_cell, ha.1, ha.2.1, hlen]
    rw [f_updI]
  show va_P D vwCl (f_ws L Ar (f_pI z k i (f_ix x) v)) H1
  rw [← e]
  exact hP1
end HW
section HW2
variable {p : Program} {l : Launch} {e : Env} {R : Room} {s : State} {m : MethodId} {args : Array Value} {below : List Frame} {meth : Method} {c : Code} {H : Heap} {locs : List Loc} {cells slots : Nat} {Q : State → Prop}
variable {cc : ByteArray} {pc : Nat} {ls : Array Slot} {rest : List Value} {L : Nat → Nat → Nat} {Ar : Nat → ClassId} {D : va_G} {b0 : Nat} {z : fST} {Ts : List Cond} {own : String}
theorem hw_alen {k i n len : Nat} (hx : p.tables.exec = Jvm.exec) (hb : c.code = cc) (hK : f_K Ar D s) (hW : f_W L Ar D z H) (ha : f_ob k = none ∧ f_at k = 0 ∧ k < 51) (hcn : f_cnt k = n) (hi : i < n) (hlen : f_al k i = len) (hd : decode cc pc = .ok (.arraylength, 1))
    (kk : W p l e R s m args below meth c H locs cells slots Q (F0 m (pc + 1) ls (.int (nI len) :: rest))) : W p l e R s m args below meth c H locs cells slots Q (F0 m pc ls (.ref (L k i) :: rest)) := by
  subst hcn
  obtain ⟨q0, -, hq⟩ := f_pos (L := L) (Ar := Ar) (f_en_mem ha.2.2 hi)
  have he := hq z
  simp only [f_cell, ha.1, ha.2.1, hlen] at he
  exact va_alen hx hb hK hW q0 0 he rfl rfl hd kk
theorem hw_rlen (hx : p.tables.exec = Jvm.exec) (hb : c.code = cc) (hK : f_K Ar D s) (hW : f_W L Ar D z H) (hd : decode cc pc = .ok (.arraylength, 1))
    (kk : W p l e R s m args below meth c H locs cells slots Q (F0 m (pc + 1) ls (.int (nI 16) :: rest))) : W p l e R s m args below meth c H locs cells slots Q (F0 m pc ls (.ref (L 12 0) :: rest)) := by
  obtain ⟨q0, -, hq⟩ := f_pos (L := L) (Ar := Ar) (f_en_mem (k := 12) (i := 0) (by decide) (by decide))
  have he := hq z
  simp only [f_cell, show f_ob 12 = none from rfl, show f_at 12 = 3 from rfl] at he
  exact va_alen hx hb hK hW q0 3 he rfl rfl hd kk
theorem hw_rald {x : Int32} (hx : p.tables.exec = Jvm.exec) (hb : c.code = cc) (hK : f_K Ar D s) (hW : f_W L Ar D z H) (hin : f_ib x 16 = true) (hd : decode cc pc = .ok (.aaload, 1))
    (kk : W p l e R s m args below meth c H locs cells slots Q (F0 m (pc + 1) ls (.ref (L 13 (f_gR z (f_ix x))) :: rest))) : W p l e R s m args below meth c H locs cells slots Q (F0 m pc ls (.int x :: .ref (L 12 0) :: rest)) := by
  obtain ⟨q0, -, hq⟩ := f_pos (L := L) (Ar := Ar) (f_en_mem (k := 12) (i := 0) (by decide) (by decide))
  have he := hq z
  simp only [f_cell, show f_ob 12 = none from rfl, show f_at 12 = 3 from rfl] at he
  exact va_aldq hx hb hK hW q0 3 he rfl (f_ib_in hin) hd kk
theorem hw_wald {x : Int32} (hx : p.tables.exec = Jvm.exec) (hb : c.code = cc) (hK : f_K Ar D s) (hW : f_W L Ar D z H) (hin : f_ib x 8 = true) (hd : decode cc pc = .ok (.aaload, 1))
    (kk : W p l e R s m args below meth c H locs cells slots Q (F0 m (pc + 1) ls (.ref (L 9 (f_ix x)) :: rest))) : W p l e R s m args below meth c H locs cells slots Q (F0 m pc ls (.int x :: .ref (L 8 0) :: rest)) := by
  obtain ⟨q0, -, hq⟩ := f_pos (L := L) (Ar := Ar) (f_en_mem (k := 8) (i := 0) (by decide) (by decide))
  have he := hq z
  simp only [f_cell, show f_ob 8 = none from rfl, show f_at 8 = 4 from rfl] at he
  have hlt : x.toNatClampNeg < 8 := f_ib_lt hin
  have hK2 := (hK.2 4 (Ar 4, .array .int) rfl).1
  exact W.aald (v := .ref (L 9 (f_ix x))) (ty := .array .int) hx hb (hW q0 _ he) (hK2 8 (fun j => va_rf (some (L 9 j)))) rfl (fun q => by cases q) (by show ¬ (x < 0 ∨ (arrV _ _ _).slots.size ≤ _); rw [arrV_size]; exact f_ib_in hin) (by show (arrV _ _ _).slots[_]? = _; rw [arrV_read _ _ hlt]; rfl) rfl rfl hd kk
theorem f_cell_pR {a n : Nat} {q : Nat × Nat} (hq : q ∈ f_en) (h : q ≠ (12, 0)) : f_cell L Ar (f_pR z a n) q.1 q.2 = f_cell L Ar z q.1 q.2 := by
  have hlt := f_en_lt hq
  have e1 : f_gI (f_pR z a n) = f_gI z := rfl
  have e2 : f_gO (f_pR z a n) = f_gO z := rfl
  have e3 : f_fv L (f_pR z a n) = f_fv L z := rfl
  unfold f_cell
  rw [e1, e2, e3]
  cases ho : f_ob q.1 with
  | some ci => rfl
  | none =>
    by_cases h12 : q.1 = 12
    · exfalso
      apply h
      obtain ⟨k, i⟩ := q
      simp only at h12 hlt
      subst h12
      have : i = 0 := by
        have : f_cnt 12 = 1 := rfl
        omega
      rw [this]
    · have h3 : f_at q.1 ≠ 3 := by
        intro h3
        unfold f_at at h3
        split at h3
        · exact h12 (by assumption)
        · split at h3 <;> (try split at h3) <;> (try split at h3) <;> simp at h3
      match hm : f_at q.1 with
      | 0 => rfl
      | 1 => rfl
      | 2 => rfl
      | 3 => exact absurd hm h3
      | n + 4 => rfl
theorem hw_rast {x : Int32} {i : Nat} (hx : p.tables.exec = Jvm.exec) (hb : c.code = cc) (hK : f_K Ar D s) (hLi : f_L L b0) (hW : f_W L Ar D z H) (hS : va_S (f_A b0) s.heap H locs) (hi : i < 16) (hin : f_ib x 16 = true) (hd : decode cc pc = .ok (.aastore, 1))
    (kk : ∀ (H1 : Heap) (locs1 : List Loc), f_W L Ar D (f_pR z (f_ix x) i) H1 → va_S (f_A b0) s.heap H1 locs1 → W p l e R s m args below meth c H1 locs1 cells slots Q (F0 m (pc + 1) ls rest)) : W p l e R s m args below meth c H locs cells slots Q (F0 m pc ls (.ref (L 13 i) :: .int x :: .ref (L 12 0) :: rest)) := by
  obtain ⟨q0, hq0, hq⟩ := f_pos (L := L) (Ar := Ar) (f_en_mem (k := 12) (i := 0) (by decide) (by decide))
  have he := hq z
  simp only [f_cell, show f_ob 12 = none from rfl, show f_at 12 = 3 from rfl] at he
  obtain ⟨qk, -, hqk⟩ := f_pos (L := L) (Ar := Ar) (f_en_mem (k := 13) (i := i) (by decide) hi)
  have hek := hqk z
  simp only [f_cell, show f_ob 13 = some 3 from rfl] at hek
  refine va_astq hx hb hK hW (f_D hLi z) hS q0 3 qk 3 (r := ("BottleReturn$Container", T_co, 9)) he rfl hek rfl (f_ib_in hin) hd (fun H1 locs1 hP1 _ hS1 => kk H1 locs1 ?_ hS1)
  have e : (f_ws L Ar z).set q0 (L 12 0, .inl (Ar 3, 16, .inr (.inr (.inr (.inr (va_up (fun j => some (L 13 (f_gR z j))) (f_ix x) (some (L 13 i)))))))) = f_ws L Ar (f_pR z (f_ix x) i) := by
    refine f_set hq0 ?_ (fun q hq hne => f_cell_pR hq hne)
    simp only [f_cell, show f_ob 12 = none from rfl, show f_at 12 = 3 from rfl]
    congr 7
    funext j
    simp only [va_up, f_gR, f_pR]
    split <;> rfl
  show va_P D vwCl (f_ws L Ar (f_pR z (f_ix x) i)) H1
  rw [← e]
  exact hP1
theorem f_cell_pO {v : Int64} {q : Nat × Nat} (hq : q ∈ f_en) (h : q ≠ (50, 0)) : f_cell L Ar (f_pO z v) q.1 q.2 = f_cell L Ar z q.1 q.2 := by
  have hlt := f_en_lt hq
  have e1 : f_gI (f_pO z v) = f_gI z := rfl
  have e2 : f_gR (f_pO z v) = f_gR z := rfl
  have e3 : f_fv L (f_pO z v) = f_fv L z := rfl
  unfold f_cell
  rw [e1, e2, e3]
  cases ho : f_ob q.1 with
  | some ci => rfl
  | none =>
    by_cases h12 : q.1 = 50
    · exfalso
      apply h
      obtain ⟨k, i⟩ := q
      simp only at h12 hlt
      subst h12
      have : i = 0 := by
        have : f_cnt 50 = 1 := rfl
        omega
      rw [this]
    · have h3 : f_at q.1 ≠ 2 := by
        intro h3
        unfold f_at at h3
        split at h3
        · simp at h3
        · split at h3
          · simp at h3
          · split at h3 <;> simp at h3
      match hm : f_at q.1 with
      | 0 => rfl
      | 1 => rfl
      | 2 => exact absurd hm h3
      | 3 => rfl
      | n + 4 => rfl
theorem hw_lald (hx : p.tables.exec = Jvm.exec) (hb : c.code = cc) (hK : f_K Ar D s) (hW : f_W L Ar D z H) (hd : decode cc pc = .ok (.laload, 1))
    (kk : W p l e R s m args below meth c H locs cells slots Q (F0 m (pc + 1) ls (.long (f_gO z) :: rest))) : W p l e R s m args below meth c H locs cells slots Q (F0 m pc ls (.int 0 :: .ref (L 50 0) :: rest)) := by
  obtain ⟨q0, -, hq⟩ := f_pos (L := L) (Ar := Ar) (f_en_mem (k := 50) (i := 0) (by decide) (by decide))
  have he := hq z
  simp only [f_cell, show f_ob 50 = none from rfl, show f_at 50 = 2 from rfl] at he
  exact va_lald hx hb hK hW q0 2 he rfl (f_ib_in (show f_ib 0 1 = true by decide)) hd kk
theorem hw_last {v : Int64} (hx : p.tables.exec = Jvm.exec) (hb : c.code = cc) (hK : f_K Ar D s) (hLi : f_L L b0) (hW : f_W L Ar D z H) (hS : va_S (f_A b0) s.heap H locs) (hd : decode cc pc = .ok (.lastore, 1))
    (kk : ∀ (H1 : Heap) (locs1 : List Loc), f_W L Ar D (f_pO z v) H1 → va_S (f_A b0) s.heap H1 locs1 → W p l e R s m args below meth c H1 locs1 cells slots Q (F0 m (pc + 1) ls rest)) : W p l e R s m args below meth c H locs cells slots Q (F0 m pc ls (.long v :: .int 0 :: .ref (L 50 0) :: rest)) := by
  obtain ⟨q0, hq0, hq⟩ := f_pos (L := L) (Ar := Ar) (f_en_mem (k := 50) (i := 0) (by decide) (by decide))
  have he := hq z
  simp only [f_cell, show f_ob 50 = none from rfl, show f_at 50 = 2 from rfl] at he
  refine va_last hx hb hK hW (f_D hLi z) hS q0 2 he rfl (f_ib_in (show f_ib 0 1 = true by decide)) hd (fun H1 locs1 hP1 hD1 hS1 => kk H1 locs1 ?_ hS1)
  obtain ⟨hE1, hE2⟩ : True ∧ True := ⟨trivial, trivial⟩
  have hset := f_set (L := L) (Ar := Ar) (z := z) (z' := f_pO z v) hq0 rfl (fun q hq hne => f_cell_pO hq hne)
  intro k q hk
  by_cases h0 : k = q0
  · subst h0
    have hlt : k < (f_ws L Ar z).length := (List.getElem?_eq_some_iff.mp he).1
    have h1 := hP1 k _ (List.getElem?_set_self hlt)
    rw [← hset, List.getElem?_set_self hlt] at hk
    cases hk
    have h1' : H1[L 50 0]? = some (vp_cell (Ar 2) (1, .inr (.inl (vp_updL (fun _ => f_gO z) (0 : Int32).toNatClampNeg v)))) := h1
    show H1[L 50 0]? = some (vp_cell (Ar 2) (1, .inr (.inl (fun _ => f_gO (f_pO z v)))))
    rw [h1', vp_cell_l, vp_cell_l]
    congr 1
  · rw [← hset, List.getElem?_set_ne (Ne.symm h0)] at hk
    exact hP1 k q (by rw [List.getElem?_set_ne (Ne.symm h0)]; exact hk)
end HW2
end
section
/-! A throw: 'throw new E()' ends the method; the heap is as it was, and one cell more. -/
section FT
variable {p : Program} {l : Launch} {e : Env} {R : Room} {s : State} {m : MethodId} {args : Array Value} {below : List Frame} {meth : Method} {c : Code} {T : State} {H : Heap} {locs : List Loc} {cells slots : Nat}
/-- the walk as if the method had just begun, at the heap that stands now -/
theorem f_rebase (X : Stand p l e R s m args below meth c T locs cells slots) {R' : Room} (h1 : R'.frames ≤ R.frames) (h2 : R'.locals ≤ R.locals) (h3 : cells + R'.cells ≤ R.cells) (h4 : slots + R'.slots ≤ R.slots) :
    Stand p l e R' ((T.setVm s.vm).setFrames (.invoking m args :: below)) m args below meth c T [] 0 0 := by
  obtain ⟨g₀, hfr⟩ := X.frames_eq
  have hcur : T.cur < T.threads.size := State.cur_lt_of_frames hfr
  have hcur' : (T.setVm s.vm).cur < (T.setVm s.vm).threads.size := hcur
  have hf : ((T.setVm s.vm).setFrames (.invoking m args :: below)).frames = .invoking m args :: below := State.frames_setFrames _ hcur'
  have hme : e.platform.stackLimits ((T.setVm s.vm).setFrames (.invoking m args :: below)).me = e.platform.stackLimits T.me := by
    rw [State.stackLimits_setFrames]; rfl
  have hby : ((T.setVm s.vm).setFrames (.invoking m args :: below)).me.stackBytes = T.me.stackBytes := by
    rw [State.stackBytes_setFrames]; rfl
  have hli : ((T.setVm s.vm).setFrames (.invoking m args :: below)).localsInUse = s.localsInUse := by
    rw [State.localsInUse_invoking hf (show ((T.setVm s.vm).setFrames (.invoking m args :: below)).vm.method? m = some meth from X.method) X.code, State.localsInUse_invoking X.frames X.method X.code]
  refine ⟨X.admits, X.cas, X.clock, hf, ?_, ?_, X.method, X.code, X.here, X.tail, X.warmed, by rw [hme], by rw [hby], ?_⟩
  · have hr := X.room
    have hz := X.heapSize
    have hu := X.used
    have hb := X.book
    have hl := X.limits
    have hb2 := X.bytes
    simp only [State.hasRoom, Bool.and_eq_true, decide_eq_true_eq] at hr ⊢
    rw [hli, hf, hme, hby]
    rw [X.frames] at hr
    rw [hl, hb2]
    refine ⟨⟨⟨⟨?_, ?_⟩, ?_⟩, ?_⟩, ?_⟩
    · have := hr.1.1.1.1
      omega
    · obtain ⟨q1, q2, q3, q4, q5⟩ := hr.1.1.1.2
      exact ⟨by omega, by omega, by omega, by omega, q5⟩
    · have := hr.1.1.2
      show T.heap.size + R'.cells ≤ _
      omega
    · have := hr.1.2
      show T.slotsUsed + R'.slots ≤ _
      omega
    · exact hb
  · exact X.hears
  · refine ⟨?_, Nat.le_refl _, Nat.le_refl _, ?_, ?_, ?_⟩
    · obtain ⟨th, hth, -⟩ := State.frames_cons hfr
      rw [State.setFrames_setFrames]
      show T.setVm s.vm = { (T.setVm s.vm).setFrames T.frames with heap := T.heap, slotsUsed := T.slotsUsed }
      rw [show (T.setVm s.vm).setFrames T.frames = T.setVm s.vm from State.setFrames_self (s := T.setVm s.vm) hth]
      rfl
    · show T.slotsUsed = T.slotsUsed + ((T.heap.toList.drop T.heap.size).map (·.slots.size)).sum
      rw [List.drop_eq_nil_of_le (by rw [Array.length_toList]; exact Nat.le_refl _)]
      rfl
    · show ((T.heap.toList.drop T.heap.size).map (·.slots.size)).sum ≤ 0
      rw [List.drop_eq_nil_of_le (by rw [Array.length_toList]; exact Nat.le_refl _)]
      exact Nat.le_refl _
    · intro a cl hcl
      exact ⟨cl, hcl, rfl, rfl, fun _ _ => rfl⟩
theorem f_thr0 {cc : ByteArray} {pc ik ic : Nat} {own cls : String} {names : List String} {ls : Array Slot} {rest : List Value} (X : Stand p l e R s m args below meth c T [] 0 0) (hh : s.heap = T.heap) (hx : p.tables.exec = Jvm.exec) (hb : c.code = cc) (htr : e.platform.stackTraces = false) (hown : s.vm.findClass own = some m.cls) (hcls : Bundle.fit cls = true) (hnames : ∀ n ∈ names, Bundle.fit n = true)
    (hk : (Cond.classLink own ik cls).before args s = true) (hini : (Cond.initialized cls).before args s = true) (h : ∀ a ∈ Bundle.ownAtoms0 own ic cls names, a.before args s = true) (hsize : ls.size = c.maxLocals)
    (d0 : decode cc pc = .ok (.new ik, 3)) (d3 : decode cc (pc + 3) = .ok (.dup, 1)) (d4 : decode cc (pc + 4) = .ok (.invokespecial ic, 3)) (d7 : decode cc (pc + 7) = .ok (.athrow, 1))
    (hout : ∀ x ∈ c.exceptionTable.toList, covers x (pc + 7) = false) (hlk : meth.locks = false) (hRf : names.length + 3 < R.frames) (hRl : (rest.map fun v => v.category).sum + (13 * (names.length + 1) + 42) ≤ R.locals) (hRc : 1 ≤ R.cells) (hRs : 6 ≤ R.slots) :
    ∃ (U : State) (a : Addr) (ce : Cell), Steps p.tables e below (T.setTop (F0 m pc ls rest)) U ∧ U.status = .running ∧ Ended U below (.threw a) ∧ s.WarmedH U.vm ∧ s.sameButNew ({ U with vm := s.vm } : State) [] 1 6 ∧ U.heap[a]? = some ce ∧ ce.vm = .none ∧ s.vm.findClass cls = some ce.cls := by
  have hW : W p l e R s m args below meth c T.heap [] 0 0 (fun U => ∃ (a : Addr) (ce : Cell), U.status = .running ∧ Ended U below (.threw a) ∧ s.WarmedH U.vm ∧ s.sameButNew ({ U with vm := s.vm } : State) [] 1 6 ∧ U.heap[a]? = some ce ∧ ce.vm = .none ∧ s.vm.findClass cls = some ce.cls) (F0 m pc ls rest) := by
    refine W.newc hx hb hown hk (h (.instantiable cls 6) (by simp [Bundle.ownAtoms0])) hini rfl d0 (by omega) (by omega) (fun cC kC g1 g2 g3 g4 => ?_)
    refine lv_dup hx hb d3 rfl ?_
    intro T1 hT1 X1
    have hc1 : T1.heap[T.heap.size]? = some (freshCell cC kC) := by
      rw [hT1]
      simp [freshCell]
    obtain ⟨U, st, k1, k2, k3, k4, ce, k5, k6⟩ := X1.ctorThrow0 hx htr hown hcls hnames h (fun x hx => by cases hx) (a := T.heap.size) g1 g2 hc1 (by rw [hh]; exact Nat.le_refl _) (g := F0 m (pc + 3 + 1) ls (.ref T.heap.size :: .ref T.heap.size :: rest)) rfl hsize rfl rfl (rest := rest) rfl (by rw [hb]; exact d4) (by rw [hb]; exact d7) hout hRf (by show 2 * 0 + (1 + (rest.map fun v => v.category).sum) + _ ≤ _; omega) hlk
    exact ⟨U, st, T.heap.size, ce, k1, k2, k3, k4, k5, k6.vm, k6.cls⟩
  obtain ⟨U, st, a, ce, r⟩ := hW T rfl X
  exact ⟨U, a, ce, st, r⟩
end FT
section FT2
variable {p : Program} {l : Launch} {e : Env} {R : Room} {s : State} {m : MethodId} {args : Array Value} {below : List Frame} {meth : Method} {c : Code} {H : Heap} {locs : List Loc} {cells slots : Nat}
variable {L : Nat → Nat → Nat} {Ar : Nat → ClassId} {D : va_G} {b0 u : Nat} {z z' : fST} {Ts : List Cond} {own : String}
/-- the words of 'throw new E()' at this place -/
def f_tw (Ts : List Cond) (own : String) (ik ic n : Nat) : Prop := Cond.classLink own ik (f_exc n) ∈ Ts ∧ Cond.initialized (f_exc n) ∈ Ts ∧ (∀ w ∈ Bundle.ownAtoms0 own ic (f_exc n) ["java/lang/RuntimeException", "java/lang/Exception"], w ∈ f_zw ∨ (w ∈ Ts ∧ w.onTables = true)) ∧ Bundle.fit (f_exc n) = true
theorem hw_throw {α : Type} {g : α ⊕ Nat → Option Value ⊕ Nat} {r : α ⊕ Nat} {n ik ic pc nL : Nat} {cc : ByteArray} {ls : Array Slot} {rest : List Value} (hl0 : l.stackTraces = false) (hx : p.tables.exec = Jvm.exec) (hb : c.code = cc) (hts : ∀ w ∈ Ts, w.before args s = true) (hown : s.vm.findClass own = some m.cls) (hlk : meth.locks = false) (hml : c.maxLocals = nL) (hno : ∀ x ∈ c.exceptionTable.toList, False) (hZ : f_Z b0 s s.heap) (hsz : b0 ≤ s.heap.size)
    (hg : g (.inr n) = .inr n) (hw : f_tw Ts own ik ic n) (hW : f_W L Ar D z H) (hS : va_S (f_A b0) s.heap H locs) (hsize : ls.size = nL) (d0 : decode cc pc = .ok (.new ik, 3)) (d3 : decode cc (pc + 3) = .ok (.dup, 1)) (d4 : decode cc (pc + 4) = .ok (.invokespecial ic, 3)) (d7 : decode cc (pc + 7) = .ok (.athrow, 1))
    (hRf : 5 < R.frames) (hRl : (rest.map fun v => v.category).sum + 81 ≤ R.locals) (hc : cells + 1 ≤ u) (hs : slots + 6 ≤ 6 * u) (hRc : cells + 1 ≤ R.cells) (hRs : slots + 6 ≤ R.slots) (hF : some ((.inr n : α ⊕ Nat), z) = some (r, z')) :
    W p l e R s m args below meth c H locs cells slots (f_E below args s L Ar D b0 u (g r) z') (F0 m pc ls rest) := by
  cases hF
  rw [hg]
  intro T hT X
  have htr : e.platform.stackTraces = false := (show e.platform.stackTraces = l.stackTraces by rw [X.admits.platform]).trans hl0
  have Y := f_rebase X (R' := { frames := R.frames, locals := R.locals, cells := 1, slots := 6 }) (Nat.le_refl _) (Nat.le_refl _) hRc hRs
  obtain ⟨s', hs'⟩ : ∃ q, q = (T.setVm s.vm).setFrames (.invoking m args :: below) := ⟨_, rfl⟩
  rw [← hs'] at Y
  have hvm : s'.vm = s.vm := by rw [hs']; rfl
  have hhp : s'.heap = T.heap := by rw [hs']; rfl
  have tab : ∀ w ∈ Ts, w.onTables = true → w.before args s' = true := fun w h1 h2 => va_tabs h2 hvm.symm (hts w h1)
  have hzw : ∀ w ∈ f_zw, w.before args s' = true := by
    refine hZ.1 args s' (by rw [hvm]; exact Vm.Alike.refl _) ?_
    intro q hq
    rw [hhp, hT]
    exact hS.2.1 q (Nat.lt_of_lt_of_le hq hsz) (fun h => Nat.not_le.mpr hq h)
  obtain ⟨U, a, ce, st, h1, h2, h3, h4, h5, h6, h7⟩ := f_thr0 (names := ["java/lang/RuntimeException", "java/lang/Exception"]) (rest := rest) Y hhp hx hb htr (by rw [hvm]; exact hown) hw.2.2.2 (by decide) (tab _ hw.1 rfl) (tab _ hw.2.1 rfl)
    (fun w h => by
      rcases hw.2.2.1 w h with h | ⟨h, h'⟩
      · exact hzw w h
      · exact tab w h h') (hsize.trans hml.symm) d0 d3 d4 d7 (fun x hx => (hno x hx).elim) hlk hRf (show _ + (13 * (2 + 1) + 42) ≤ R.locals from hRl) (Nat.le_refl _) (Nat.le_refl _)
  have hkeep : ∀ q : Nat, q < T.heap.size → U.heap[q]? = T.heap[q]? := by
    intro q hq
    obtain ⟨cq, hcq⟩ : ∃ x, T.heap[q]? = some x := ⟨_, Array.getElem?_eq_getElem hq⟩
    obtain ⟨c', e1, e2, e3, e4⟩ := h4.2.2.2.2.2 q cq (by rw [hhp]; exact hcq)
    have e1' : U.heap[q]? = some c' := e1
    have : c'.slots = cq.slots := Array.ext_getElem? (fun i => e4 i (by simp))
    rw [e1', hcq, e2, this]
  have hsz2 : T.heap.size ≤ U.heap.size := by
    have := h4.2.1
    rw [hhp] at this
    exact this
  have hsame := X.same
  refine ⟨U, st, _, h1, h2, ⟨a, ce, rfl, h5, h6, by rw [← hvm]; exact h7⟩, ?_, ?_, ?_⟩
  · intro k q hk
    have hq := hW k q hk
    refine va_at.kept hq ?_
    have hlt := hq.lt
    rw [← hT] at hlt ⊢
    exact hkeep _ hlt
  · refine ⟨Nat.le_trans hS.1 (by rw [← hT]; exact hsz2), fun q q1 q2 => ?_⟩
    rw [hkeep q (by rw [hT]; exact Nat.lt_of_lt_of_le q1 hS.1), hT]
    exact hS.2.1 q q1 q2
  · have h4' : (T.setVm s.vm).sameButNew ({ U with vm := s.vm } : State) [] 1 6 := by
      subst hs'
      obtain ⟨a1, a2, a3, a4, a5, a6⟩ := h4
      refine ⟨?_, a2, a3, a4, a5, a6⟩
      rw [State.setFrames_setFrames] at a1
      exact a1
    refine ⟨locs, by subst hs'; exact h3, ?_, hS.2.2⟩
    exact (X.same.trans h4').weaken (fun x hx _ => by simpa using hx) hc hs
end FT2
end
section
/-! Calls whose callee throws: what comes to the caller; it leaves the caller too, or is caught. -/
section FX
variable {p : Program} {l : Launch} {e : Env} {R : Room} {s : State} {m : MethodId} {args : Array Value} {below : List Frame} {meth : Method} {c : Code} {T : State} {H : Heap} {locs : List Loc} {cells slots : Nat} {Q : State → Prop}
variable {L : Nat → Nat → Nat} {Ar : Nat → ClassId} {D : va_G} {b0 u : Nat} {z z' : fST} {y : MethodName} {ws : List Cond} {d n : Nat} {as : List Value}
theorem f_Pc_blind (L : Nat → Nat → Nat) (Ar : Nat → ClassId) (D : va_G) (b0 : Nat) (as : List Value) (z : fST) : FrameBlind (f_Pc L Ar D b0 as z) :=
  fun a U g mk q => ⟨q.1, q.2.1, va_K.moved (u := U) (U := U.calling g mk a) (Vm.Alike.refl U.vm) q.2.2.1, f_Z.moved (u := U) (U := U.calling g mk a) (State.WarmedH.refl U) q.2.2.2.1, q.2.2.2.2⟩
theorem f_Pc_at (hK : f_K Ar D s) (hZ : f_Z b0 s s.heap) (hsz : b0 ≤ s.heap.size) (hS : va_S (f_A b0) s.heap H locs) (hW : f_W L Ar D z H) {U : State} (hU : U.heap = H) (hWm : s.WarmedH U.vm) : f_Pc L Ar D b0 as z as.toArray U := by
  refine ⟨rfl, by rw [hU]; exact Nat.le_trans hsz hS.1, va_K.moved hWm.alike hK, ?_, by rw [hU]; exact hW⟩
  refine (hZ.moved hWm).kept ?_
  intro q hq
  rw [hU]
  exact hS.2.1 q (Nat.lt_of_lt_of_le hq hsz) (fun h => Nat.not_le.mpr hq h)
theorem hw_preS (hK : f_K Ar D s) (hZ : f_Z b0 s s.heap) (hsz : b0 ≤ s.heap.size) (hS : va_S (f_A b0) s.heap H locs) (hW : f_W L Ar D z H) : PreS s H (f_Pc L Ar D b0 as z) as :=
  ⟨f_Pc_blind L Ar D b0 as z, fun U hU hWm => f_Pc_at hK hZ hsz hS hW hU hWm⟩
theorem f_recv {k i ci N : Nat} {C : String} {T : u_T} (hK : f_K Ar D s) (hW : f_W L Ar D z H) (hk : k < 51) (hi : i < f_cnt k) (h1 : f_ob k = some ci) (h2 : vwCl[ci]? = some (C, T, N)) : ∃ cellB : Cell, H[L k i]? = some cellB ∧ cellB.vm.isStatics = false ∧ s.vm.findClass C = some cellB.cls := by
  obtain ⟨q0, -, hq⟩ := f_pos (L := L) (Ar := Ar) (f_en_mem hk hi)
  have he := hq z
  simp only [f_cell, h1] at he
  obtain ⟨r, g0, cell, g1, g2, g3, -⟩ := hW q0 _ he
  refine ⟨cell, g1, by rw [g3]; rfl, ?_⟩
  rw [g2]
  exact (hK.1 ci _ h2).2.1
theorem hw_preV {k i ci N : Nat} {C : String} {T : u_T} (hK : f_K Ar D s) (hZ : f_Z b0 s s.heap) (hsz : b0 ≤ s.heap.size) (hS : va_S (f_A b0) s.heap H locs) (hW : f_W L Ar D z H) (hk : k < 51) (hi : i < f_cnt k) (h1 : f_ob k = some ci) (h2 : vwCl[ci]? = some (C, T, N)) : PreV s H C (L k i) (f_Pc L Ar D b0 (.ref (L k i) :: as) z) as :=
  ⟨f_Pc_blind L Ar D b0 _ z, f_recv hK hW hk hi h1 h2, fun U hU hWm => f_Pc_at hK hZ hsz hS hW hU hWm⟩
theorem f_callT (X : Stand p l e R s m args below meth c T locs cells slots) (hC : f_C l y ws d u L Ar D b0 as z (.inr n) z') {g : JFrame} (hg : g.method = m) (hsize : g.locals.size = c.maxLocals) {ig : Instr} {len : Nat} (hdg : decode c.code g.pc = .ok (ig, len)) (hWt : 2 * g.monitorRoom + (g.stack.map fun v => v.category).sum ≤ 8) {mk : MethodId} (hn : T.methodNamed? y = some mk)
    {bytes : ByteArray} {maxL : Nat} {ret : Option FieldType} (hcode : (Cond.code y bytes maxL ret).before as.toArray T = true) (hini : (Cond.initialized y.cls).before as.toArray T = true) (hws : ∀ w ∈ ws, w.before as.toArray T = true) (hfr : d + 1 ≤ R.frames) (hlo : 8 + (maxL + 11) + 40 * d ≤ R.locals) (hc : cells + u ≤ R.cells) (hs : slots + 6 * u ≤ R.slots) (hP : f_Pc L Ar D b0 as z as.toArray T) :
    ∃ (q : Addr) (T' : State) (Lc : List Loc) (ce : Cell), Stand p l e R s m args below meth c T' (locs ++ Lc) (cells + u) (slots + 6 * u) ∧ (∀ x ∈ Lc, b0 ≤ x.base) ∧ f_W L Ar D z' T'.heap ∧ T.heap.size ≤ T'.heap.size ∧ (∀ q' : Nat, q' < T.heap.size → ¬ f_A b0 q' → T'.heap[q']? = T.heap[q']?) ∧
      T'.heap[q]? = some ce ∧ ce.vm = .none ∧ T.vm.findClass (f_exc n) = some ce.cls ∧ Steps p.tables e below (doInvoke e (T.setTop g) [] mk as.toArray).1 ((T'.setTop g).pushFrame (.throwing q)) := by
  obtain ⟨methY, cY, hmY, hcY, -, hlY, -, -, -, -⟩ := Cond.code_spec hn hcode
  obtain ⟨kY, hkY, -⟩ := className_of_methodNamed hn
  have hinitY : kY.init = .initialized := Cond.initialized_spec (findClass_of_methodNamed hn) hkY hini
  have h : At T g.method c below := by rw [hg]; exact X.here
  have happ : (headSpec ws (f_rm d u)).appliesLoose y e.platform (T.calling g mk as.toArray) = true :=
    Spec.appliesLoose_calling (g := g) h hdg hn hkY hinitY
      (X.room_calling (g := g) (R' := f_rm d u) hsize hmY hcY hfr (by rw [hlY]; show _ + (maxL + 11) + 40 * d ≤ _; omega) hc hs) (atoms_intro hws)
  obtain ⟨mid, hmid⟩ := h.above
  have hfr' : (T.setTop g).frames = (.java g :: mid) ++ below := by rw [State.frames_setTop' g h.top, hmid]; rfl
  obtain ⟨o, s₂, hsteps, -, hend, hq⟩ := Steps.callFree hC p X.admits X.cas X.clock (acts := []) hfr' happ (f_Pc_blind L Ar D b0 as z _ _ g mk hP) trivial
  rw [State.frames_setTop' g h.top, X.tail] at hend
  obtain ⟨ho, hW2, hF, Lc, w1, w2, w3⟩ := hq
  obtain ⟨q, ce, rfl, c1, c2, c3⟩ := ho
  obtain ⟨T', X', hW', hsame', ht⟩ := X.outOfThrown hg hend w1 w2
  have hheap : s₂.heap = T'.heap := by rw [ht]; exact Stand.throwing_heap T' g q
  rw [hheap] at hW2 c1
  have hF1 : T.heap.size ≤ T'.heap.size := by rw [← hheap]; exact hF.1
  have hF2 : ∀ q' : Nat, q' < T.heap.size → ¬ f_A b0 q' → T'.heap[q']? = T.heap[q']? := by
    intro q' h1 h2
    rw [← hheap]
    exact hF.2 q' h1 h2
  exact ⟨q, T', Lc, ce, X', w3, hW2, hF1, hF2, c1, c2, c3, by rw [← ht]; exact hsteps⟩
/-- the method's frame g, with q thrown over it -/
def f_V (p : Program) (l : Launch) (e : Env) (R : Room) (s : State) (m : MethodId) (args : Array Value) (below : List Frame) (meth : Method) (c : Code) (H : Heap) (locs : List Loc) (cells slots : Nat) (Q : State → Prop) (g : JFrame) (q : Addr) : Prop :=
  ∀ T : State, T.heap = H → Stand p l e R s m args below meth c T locs cells slots → ∃ t, Steps p.tables e below ((T.setTop g).pushFrame (.throwing q)) t ∧ Q t
theorem hw_out {pc : Nat} {ls : Array Slot} {rest : List Value} {ce : Cell} {q : Addr} (hout : ∀ x ∈ c.exceptionTable.toList, covers x pc = false) (hlk : meth.locks = false) (hW : f_W L Ar D z' H) (hS : va_S (f_A b0) s.heap H locs) (hq : H[q]? = some ce) (hv : ce.vm = .none) (hcl : s.vm.findClass (f_exc n) = some ce.cls) (hc : cells ≤ u) (hs : slots ≤ 6 * u) :
    f_V p l e R s m args below meth c H locs cells slots (f_E below args s L Ar D b0 u (.inr n) z') (F0 m pc ls rest) q := by
  intro T hT X0
  have X := stand_widen X0 hc hs
  obtain ⟨st, r1, r2, r3, r4⟩ := X.leaveThrown q (g := F0 m pc ls rest) rfl rfl rfl hout hlk
  exact ⟨_, st, _, r1, r2, ⟨q, ce, rfl, by rw [show (T.setFrames (.throwing q :: below)).heap = T.heap from rfl, hT]; exact hq, hv, hcl⟩, by rw [show (T.setFrames (.throwing q :: below)).heap = T.heap from rfl, hT]; exact hW, hS.F hT, locs, r3, r4, hS.2.2⟩
theorem hw_ST {cc : ByteArray} {pc nL index maxL k uc : Nat} {own : String} {As rest : List Value} {ls : Array Slot} {bytes : ByteArray} {ret : Option FieldType} {Ts : List Cond} (S : CallFix p m c cc nL s args Ts own) (hC : f_C l y ws d uc L Ar D b0 As z (.inr n) z') (cw : CallB R s args own index y bytes maxL ret ws (f_rm d uc) uc (6 * uc) k ∧ (Cond.static y).before args s = true)
    (hK : f_K Ar D s) (hZ : f_Z b0 s s.heap) (hsz : b0 ≤ s.heap.size) (hS : va_S (f_A b0) s.heap H locs) (hW : f_W L Ar D z H) (hn : As.length = k) (hsize : ls.size = nL) (hwt : (rest.map fun v => v.category).sum ≤ 8) (hdg : decode cc pc = .ok (.invokestatic index, 3)) (hf : cells + uc ≤ R.cells ∧ slots + 6 * uc ≤ R.slots)
    (kk : ∀ (q : Addr) (ce : Cell) (H1 : Heap) (locs1 : List Loc), f_W L Ar D z' H1 → va_S (f_A b0) s.heap H1 locs1 → H1[q]? = some ce → ce.vm = .none → s.vm.findClass (f_exc n) = some ce.cls → f_V p l e R s m args below meth c H1 locs1 (cells + uc) (slots + 6 * uc) Q (F0 m pc ls rest) q) :
    W p l e R s m args below meth c H locs cells slots Q (F0 m pc ls (As.reverse ++ rest)) := by
  obtain ⟨⟨-, -, hfr, hlo, hws, hcw, hcode, hini, hy, hlen, hl⟩, hstt⟩ := cw
  obtain ⟨hx, hb, hml, ho, -⟩ := S
  intro T hT X
  obtain ⟨mk, hnamed⟩ := Cond.code_named hcode
  obtain ⟨methM, cM, hmethM, -, -, -, -, -, -, hsigM⟩ := Cond.code_spec hnamed hcode
  have hstatic : methM.isStatic = true := Cond.static_spec hnamed hmethM hstt
  obtain ⟨kP, hkP, -⟩ := className_of_methodNamed hnamed
  have hinitP : kP.init = .initialized := Cond.initialized_spec (findClass_of_methodNamed hnamed) hkP hini
  obtain ⟨vm₁, X₁, hstep₁⟩ := X.invokestatic hx ho hl hnamed hmethM hstatic hkP hinitP hy (g := F0 m pc ls (As.reverse ++ rest)) rfl (argsL := As) (rest := rest) (hn.trans (hlen _ hsigM)) rfl (by rw [hb]; exact hdg)
  obtain ⟨q, T', Lc, ce, X', hL, hW', k1, k2, k3, k4, k5, hsteps⟩ := f_callT X₁ hC (g := F0 m pc ls rest) rfl (hsize.trans hml.symm) (by rw [hb]; exact hdg) (by show 2 * 0 + (rest.map fun v => v.category).sum ≤ 8; omega) (X₁.named hnamed) (hws _ hcw _ _ X₁.warmed) (word_at X₁.warmed (Or.inl (by first | rfl | simp [Cond.onTables, Cond.keeps, Cond.steady])) hini) (fun w hw => hws w hw _ _ X₁.warmed) hfr hlo hf.1 hf.2 (f_Pc_at hK hZ hsz hS hW hT X₁.warmed)
  have hT1 : (T.setVm vm₁).heap = H := hT
  rw [hT1] at k1 k2
  obtain ⟨t, a1, b1⟩ := kk q ce T'.heap (locs ++ Lc) hW'
    ⟨Nat.le_trans hS.1 k1, fun q' h1 h2 => by rw [k2 q' (Nat.lt_of_lt_of_le h1 hS.1) h2]; exact hS.2.1 q' h1 h2, fun x hx => by
      rcases List.mem_append.mp hx with h | h
      · exact hS.2.2 x h
      · exact hL x h⟩ k3 k4 (by rw [← X₁.warmed.alike.findClass]; exact k5) T' rfl X'
  exact ⟨t, hstep₁ _ fun acts => by rw [doInvoke_state]; exact hsteps.trans a1, b1⟩
theorem hw_VT {cc : ByteArray} {pc nL index maxL k uc : Nat} {own C : String} {b : Addr} {As rest : List Value} {ls : Array Slot} {bytes : ByteArray} {ret : Option FieldType} {Ts : List Cond} (S : CallFix p m c cc nL s args Ts own) (hC : f_C l y ws d uc L Ar D b0 (.ref b :: As) z (.inr n) z') (cw : CallW R s args own C index y bytes maxL ret ws (f_rm d uc) uc (6 * uc) k)
    (hK : f_K Ar D s) (hZ : f_Z b0 s s.heap) (hsz : b0 ≤ s.heap.size) (hS : va_S (f_A b0) s.heap H locs) (hW : f_W L Ar D z H) (hrecv : ∃ cellB : Cell, H[b]? = some cellB ∧ cellB.vm.isStatics = false ∧ s.vm.findClass C = some cellB.cls) (hn : As.length = k) (hsize : ls.size = nL) (hwt : (rest.map fun v => v.category).sum ≤ 8) (hdg : decode cc pc = .ok (.invokevirtual index, 3)) (hf : cells + uc ≤ R.cells ∧ slots + 6 * uc ≤ R.slots)
    (kk : ∀ (q : Addr) (ce : Cell) (H1 : Heap) (locs1 : List Loc), f_W L Ar D z' H1 → va_S (f_A b0) s.heap H1 locs1 → H1[q]? = some ce → ce.vm = .none → s.vm.findClass (f_exc n) = some ce.cls → f_V p l e R s m args below meth c H1 locs1 (cells + uc) (slots + 6 * uc) Q (F0 m pc ls rest) q) :
    W p l e R s m args below meth c H locs cells slots Q (F0 m pc ls (As.reverse ++ .ref b :: rest)) := by
  obtain ⟨⟨-, -, hfr, hlo, hws, hcw, hcode, hini, hy, hlen, hl⟩, hinst, hsel⟩ := cw
  obtain ⟨hx, hb, hml, ho, -⟩ := S
  obtain ⟨cellB, hcB, hobj, hcls⟩ := hrecv
  intro T hT X
  obtain ⟨mk, methM, hnamed, hmethM, hstM, habM⟩ := Cond.instanceMethod_spec hinst
  obtain ⟨methM', cM, hmethM', -, -, -, -, -, -, hsigM⟩ := Cond.code_spec hnamed hcode
  cases hmethM.symm.trans hmethM'
  obtain ⟨c2, r2, m2, q1, q2, q3, q4, kP, hkP, hkPi⟩ := Cond.selects_spec hsel
  cases hcls.symm.trans q1
  cases (State.methodFound?_of_named hnamed hy).symm.trans q2
  cases hnamed.symm.trans q3
  have hselP : selectMethod e.platform s.vm cellB.cls mk = .method mk := by rw [Launch.admits_selectMethod X.admits]; exact q4
  obtain ⟨vm₁, X₁, hstep₁⟩ := X.invokevirtual hx ho hl hnamed hmethM hstM hkP hkPi hy (a := b) (cell := cellB) (by rw [hT]; exact hcB)
    (fun z h => by rw [h] at hobj; cases hobj) hselP hmethM habM hkP hkPi (g := F0 m pc ls (As.reverse ++ .ref b :: rest)) rfl (argsL := As) (rest := rest) (hn.trans (hlen _ hsigM)) rfl (by rw [hb]; exact hdg)
  obtain ⟨q, T', Lc, ce, X', hL, hW', k1, k2, k3, k4, k5, hsteps⟩ := f_callT X₁ hC (g := F0 m pc ls rest) rfl (hsize.trans hml.symm) (by rw [hb]; exact hdg) (by show 2 * 0 + (rest.map fun v => v.category).sum ≤ 8; omega) (X₁.named hnamed) (hws _ hcw _ _ X₁.warmed) (word_at X₁.warmed (Or.inl (by first | rfl | simp [Cond.onTables, Cond.keeps, Cond.steady])) hini) (fun w hw => hws w hw _ _ X₁.warmed) hfr hlo hf.1 hf.2 (f_Pc_at hK hZ hsz hS hW hT X₁.warmed)
  have hT1 : (T.setVm vm₁).heap = H := hT
  rw [hT1] at k1 k2
  obtain ⟨t, a1, b1⟩ := kk q ce T'.heap (locs ++ Lc) hW'
    ⟨Nat.le_trans hS.1 k1, fun q' h1 h2 => by rw [k2 q' (Nat.lt_of_lt_of_le h1 hS.1) h2]; exact hS.2.1 q' h1 h2, fun x hx => by
      rcases List.mem_append.mp hx with h | h
      · exact hS.2.2 x h
      · exact hL x h⟩ k3 k4 (by rw [← X₁.warmed.alike.findClass]; exact k5) T' rfl X'
  exact ⟨t, hstep₁ _ fun acts => by rw [doInvoke_state]; exact hsteps.trans a1, b1⟩
end FX
end
section
/-! Calls by site: what a place of the code says of its callee, as words of wt; and the rows of a call that returns or throws. -/
def f_ss (own : String) (index : Nat) (y : MethodName) (bytes : ByteArray) (maxL : Nat) (ret : Option FieldType) (n : Nat) : Prop := Cond.code y bytes maxL ret ∈ wt ∧ Cond.initialized y.cls ∈ wt ∧ Cond.methodLink own index y ∈ wt ∧ Cond.static y ∈ wt ∧ (y.cls ≠ "java/lang/invoke/MethodHandle" ∧ y.cls ≠ "java/lang/invoke/VarHandle") ∧ (parseMethodDescriptor y.desc).map (fun d => d.parameters.length) = some n
def f_sv (own : String) (index : Nat) (y : MethodName) (bytes : ByteArray) (maxL : Nat) (ret : Option FieldType) (n : Nat) : Prop := Cond.code y bytes maxL ret ∈ wt ∧ Cond.initialized y.cls ∈ wt ∧ Cond.methodLink own index y ∈ wt ∧ (Cond.instanceMethod y ∈ wt ∧ Cond.selects y.cls y y ∈ wt) ∧ (y.cls ≠ "java/lang/invoke/MethodHandle" ∧ y.cls ≠ "java/lang/invoke/VarHandle") ∧ (parseMethodDescriptor y.desc).map (fun d => d.parameters.length) = some n
section FS
variable {p : Program} {l : Launch} {e : Env} {R : Room} {s : State} {m : MethodId} {args : Array Value} {below : List Frame} {meth : Method} {c : Code} {H : Heap} {locs : List Loc} {cells slots : Nat} {Q : State → Prop}
variable {cc : ByteArray} {pc nL : Nat} {ls : Array Slot} {As rest : List Value} {L : Nat → Nat → Nat} {Ar : Nat → ClassId} {D : va_G} {b0 uc d n index maxL : Nat} {z z' : fST} {own : String} {y : MethodName} {bytes : ByteArray} {ret : Option FieldType} {v : Option Value}
theorem f_cb (hts : ∀ w ∈ wt, w.before args s = true) (h1 : Cond.code y bytes maxL ret ∈ wt) (h2 : Cond.initialized y.cls ∈ wt) (h3 : Cond.methodLink own index y ∈ wt) (h5 : y.cls ≠ "java/lang/invoke/MethodHandle" ∧ y.cls ≠ "java/lang/invoke/VarHandle") (h6 : (parseMethodDescriptor y.desc).map (fun d => d.parameters.length) = some n) (hf : d + 1 ≤ R.frames) (hlo : 8 + (maxL + 11) + 40 * d ≤ R.locals) : CallB R s args own index y bytes maxL ret wt (f_rm d uc) uc (6 * uc) n := by
  refine ⟨rfl, rfl, hf, hlo, wt_at hts, h1, hts _ h1, hts _ h2, h5, fun sig h => ?_, hts _ h3⟩
  rw [h] at h6
  exact (Option.some.inj h6).symm
theorem hw_SR (hx : p.tables.exec = Jvm.exec) (hb : c.code = cc) (hml : c.maxLocals = nL) (hown : s.vm.findClass own = some m.cls) (hts : ∀ w ∈ wt, w.before args s = true) (hC : f_C l y wt d uc L Ar D b0 As z (.inl v) z') (st : f_ss own index y bytes maxL ret n) (hK : f_K Ar D s) (hZ : f_Z b0 s s.heap) (hsz : b0 ≤ s.heap.size) (hS : va_S (f_A b0) s.heap H locs) (hW : f_W L Ar D z H) (hn : As.length = n) (hsize : ls.size = nL) (hwt : (rest.map fun v => v.category).sum ≤ 8) (hd : decode cc pc = .ok (.invokestatic index, 3)) (hf : d + 1 ≤ R.frames) (hlo : 8 + (maxL + 11) + 40 * d ≤ R.locals) (hc : cells + uc ≤ R.cells) (hs : slots + 6 * uc ≤ R.slots)
    (kk : ∀ (H1 : Heap) (locs1 : List Loc), f_W L Ar D z' H1 → va_S (f_A b0) s.heap H1 locs1 → W p l e R s m args below meth c H1 locs1 (cells + uc) (slots + 6 * uc) Q (F0 m (pc + 3) ls (v.toList ++ rest))) : W p l e R s m args below meth c H locs cells slots Q (F0 m pc ls (As.reverse ++ rest)) := by
  obtain ⟨h1, h2, h3, h4, h5, h6⟩ := st
  exact hw_go (va_runS (As := As) (rest := rest) ⟨hx, hb, hml, hown, hts⟩ (f_met hC) ⟨f_cb hts h1 h2 h3 h5 h6 hf hlo, hts _ h4⟩ (hw_preS hK hZ hsz hS hW) rfl hn hsize rfl (lv_room hwt) hd ⟨hc, hs⟩) hS kk
theorem hw_VR {k i ci N nk : Nat} {T : u_T} (hx : p.tables.exec = Jvm.exec) (hb : c.code = cc) (hml : c.maxLocals = nL) (hown : s.vm.findClass own = some m.cls) (hts : ∀ w ∈ wt, w.before args s = true) (hC : f_C l y wt d uc L Ar D b0 (.ref (L k i) :: As) z (.inl v) z') (st : f_sv own index y bytes maxL ret n) (hk : k < 51) (hcn : f_cnt k = nk) (hi : i < nk) (ho : f_ob k = some ci) (hv : vwCl[ci]? = some (y.cls, T, N)) (hK : f_K Ar D s) (hZ : f_Z b0 s s.heap) (hsz : b0 ≤ s.heap.size) (hS : va_S (f_A b0) s.heap H locs) (hW : f_W L Ar D z H) (hn : As.length = n) (hsize : ls.size = nL) (hwt : (rest.map fun v => v.category).sum ≤ 8) (hd : decode cc pc = .ok (.invokevirtual index, 3)) (hf : d + 1 ≤ R.frames) (hlo : 8 + (maxL + 11) + 40 * d ≤ R.locals) (hc : cells + uc ≤ R.cells) (hs : slots + 6 * uc ≤ R.slots)
    (kk : ∀ (H1 : Heap) (locs1 : List Loc), f_W L Ar D z' H1 → va_S (f_A b0) s.heap H1 locs1 → W p l e R s m args below meth c H1 locs1 (cells + uc) (slots + 6 * uc) Q (F0 m (pc + 3) ls (v.toList ++ rest))) : W p l e R s m args below meth c H locs cells slots Q (F0 m pc ls (As.reverse ++ .ref (L k i) :: rest)) := by
  obtain ⟨h1, h2, h3, ⟨h4, h4'⟩, h5, h6⟩ := st
  subst hcn
  exact hw_go (va_runV (As := As) (rest := rest) (C := y.cls) ⟨hx, hb, hml, hown, hts⟩ (f_met hC) ⟨f_cb hts h1 h2 h3 h5 h6 hf hlo, hts _ h4, hts _ h4'⟩ (hw_preV hK hZ hsz hS hW hk hi ho hv) rfl hn hsize rfl (lv_room hwt) hd ⟨hc, hs⟩) hS kk
theorem hw_SX {r : Nat} (hx : p.tables.exec = Jvm.exec) (hb : c.code = cc) (hml : c.maxLocals = nL) (hown : s.vm.findClass own = some m.cls) (hts : ∀ w ∈ wt, w.before args s = true) (hC : f_C l y wt d uc L Ar D b0 As z (.inr r) z') (st : f_ss own index y bytes maxL ret n) (hK : f_K Ar D s) (hZ : f_Z b0 s s.heap) (hsz : b0 ≤ s.heap.size) (hS : va_S (f_A b0) s.heap H locs) (hW : f_W L Ar D z H) (hn : As.length = n) (hsize : ls.size = nL) (hwt : (rest.map fun v => v.category).sum ≤ 8) (hd : decode cc pc = .ok (.invokestatic index, 3)) (hf : d + 1 ≤ R.frames) (hlo : 8 + (maxL + 11) + 40 * d ≤ R.locals) (hc : cells + uc ≤ R.cells) (hs : slots + 6 * uc ≤ R.slots)
    (kk : ∀ (q : Addr) (ce : Cell) (H1 : Heap) (locs1 : List Loc), f_W L Ar D z' H1 → va_S (f_A b0) s.heap H1 locs1 → H1[q]? = some ce → ce.vm = .none → s.vm.findClass (f_exc r) = some ce.cls → f_V p l e R s m args below meth c H1 locs1 (cells + uc) (slots + 6 * uc) Q (F0 m pc ls rest) q) : W p l e R s m args below meth c H locs cells slots Q (F0 m pc ls (As.reverse ++ rest)) := by
  obtain ⟨h1, h2, h3, h4, h5, h6⟩ := st
  exact hw_ST ⟨hx, hb, hml, hown, hts⟩ hC ⟨f_cb hts h1 h2 h3 h5 h6 hf hlo, hts _ h4⟩ hK hZ hsz hS hW hn hsize hwt hd ⟨hc, hs⟩ kk
theorem hw_VX {r k i ci N nk : Nat} {T : u_T} (hx : p.tables.exec = Jvm.exec) (hb : c.code = cc) (hml : c.maxLocals = nL) (hown : s.vm.findClass own = some m.cls) (hts : ∀ w ∈ wt, w.before args s = true) (hC : f_C l y wt d uc L Ar D b0 (.ref (L k i) :: As) z (.inr r) z') (st : f_sv own index y bytes maxL ret n) (hk : k < 51) (hcn : f_cnt k = nk) (hi : i < nk) (ho : f_ob k = some ci) (hv : vwCl[ci]? = some (y.cls, T, N)) (hK : f_K Ar D s) (hZ : f_Z b0 s s.heap) (hsz : b0 ≤ s.heap.size) (hS : va_S (f_A b0) s.heap H locs) (hW : f_W L Ar D z H) (hn : As.length = n) (hsize : ls.size = nL) (hwt : (rest.map fun v => v.category).sum ≤ 8) (hd : decode cc pc = .ok (.invokevirtual index, 3)) (hf : d + 1 ≤ R.frames) (hlo : 8 + (maxL + 11) + 40 * d ≤ R.locals) (hc : cells + uc ≤ R.cells) (hs : slots + 6 * uc ≤ R.slots)
    (kk : ∀ (q : Addr) (ce : Cell) (H1 : Heap) (locs1 : List Loc), f_W L Ar D z' H1 → va_S (f_A b0) s.heap H1 locs1 → H1[q]? = some ce → ce.vm = .none → s.vm.findClass (f_exc r) = some ce.cls → f_V p l e R s m args below meth c H1 locs1 (cells + uc) (slots + 6 * uc) Q (F0 m pc ls rest) q) : W p l e R s m args below meth c H locs cells slots Q (F0 m pc ls (As.reverse ++ .ref (L k i) :: rest)) := by
  obtain ⟨h1, h2, h3, ⟨h4, h4'⟩, h5, h6⟩ := st
  subst hcn
  exact hw_VT (C := y.cls) ⟨hx, hb, hml, hown, hts⟩ hC ⟨f_cb hts h1 h2 h3 h5 h6 hf hlo, hts _ h4, hts _ h4'⟩ hK hZ hsz hS hW (f_recv hK hW hk hi ho hv) hn hsize hwt hd ⟨hc, hs⟩ kk
theorem hw_abs {x : Int32} (hx : p.tables.exec = Jvm.exec) (hb : c.code = cc) (hml : c.maxLocals = nL) (hsize : ls.size = nL) (hown : s.vm.findClass own = some m.cls) (hts : ∀ w ∈ wt, w.before args s = true) (st : f_ss own index Lib.Math.abs.name Lib.Math.abs.code 1 (some .int) 1) (hf : 1 ≤ R.frames) (hlo : (rest.map fun v => v.category).sum + 13 ≤ R.locals) (hc : cells ≤ R.cells) (hs : slots ≤ R.slots) (hd : decode cc pc = .ok (.invokestatic index, 3))
    (kk : W p l e R s m args below meth c H locs cells slots Q (F0 m (pc + 3) ls (.int (f_ab x) :: rest))) : W p l e R s m args below meth c H locs cells slots Q (F0 m pc ls (.int x :: rest)) := by
  obtain ⟨h1, h2, h3, h4, h5, h6⟩ := st
  exact va_mabs hx hb (hml.trans hsize.symm) hown (hts _ h3) (hts _ h4) (hts _ h2) (hts _ h1) hf hlo hc hs hd kk
/-- a nest mate's private static method -/
def f_sn (own : String) (index : Nat) (y : MethodName) (host : String) (bytes : ByteArray) (maxL : Nat) (ret : Option FieldType) (n : Nat) : Prop := Cond.code y bytes maxL ret ∈ wt ∧ Cond.initialized y.cls ∈ wt ∧ Cond.static y ∈ wt ∧ (y.cls ≠ "java/lang/invoke/MethodHandle" ∧ y.cls ≠ "java/lang/invoke/VarHandle") ∧ (parseMethodDescriptor y.desc).map (fun d => d.parameters.length) = some n
theorem hw_SN {host : String} (hx : p.tables.exec = Jvm.exec) (hb : c.code = cc) (hml : c.maxLocals = nL) (hown : s.vm.findClass own = some m.cls) (hts : ∀ w ∈ wt, w.before args s = true) (hC : f_C l y wt d uc L Ar D b0 As z (.inl v) z') (st : f_sn own index y host bytes maxL ret n) (hnest : va_Nw (.methodLinkNest own index y host) s) (hK : f_K Ar D s) (hZ : f_Z b0 s s.heap) (hsz : b0 ≤ s.heap.size) (hS : va_S (f_A b0) s.heap H locs) (hW : f_W L Ar D z H) (hn : As.length = n) (hsize : ls.size = nL) (hwt : (rest.map fun v => v.category).sum ≤ 8) (hd : decode cc pc = .ok (.invokestatic index, 3)) (hf : d + 1 ≤ R.frames) (hlo : 8 + (maxL + 11) + 40 * d ≤ R.locals) (hc : cells + uc ≤ R.cells) (hs : slots + 6 * uc ≤ R.slots)
    (kk : ∀ (H1 : Heap) (locs1 : List Loc), f_W L Ar D z' H1 → va_S (f_A b0) s.heap H1 locs1 → W p l e R s m args below meth c H1 locs1 (cells + uc) (slots + 6 * uc) Q (F0 m (pc + 3) ls (v.toList ++ rest))) : W p l e R s m args below meth c H locs cells slots Q (F0 m pc ls (As.reverse ++ rest)) := by
  obtain ⟨h1, h2, h4, h5, h6⟩ := st
  refine hw_go (va_runSN (As := As) (rest := rest) ⟨hx, hb, hml, hown, hts⟩ (f_met hC) ⟨⟨⟨rfl, rfl, hf, hlo, wt_at hts, h1⟩, hts _ h1, hts _ h2, h5, fun sig h => ?_, va_Nw.use rfl hnest⟩, hts _ h4, trivial⟩ (hw_preS hK hZ hsz hS hW) rfl hn hsize rfl (lv_room hwt) hd ⟨hc, hs⟩) hS kk
  rw [h] at h6
  exact (Option.some.inj h6).symm
end FS
end
