/-! Which objects there are: kinds 0 to 26 the class's, 30 to 41 the reference's, 50 the law's out. f_cnt: how many of a kind. f_cell: what each of them holds, read off the flat memory. -/
def f_cnt (k : Nat) : Nat := if k = 9 then 8 else if k = 13 then 16 else if k = 14 ∨ k = 15 then 32 else if k < 27 ∨ (30 ≤ k ∧ k < 42) ∨ k = 50 then 1 else 0
def f_en : List (Nat × Nat) := (List.range 51).flatMap fun k => (List.range (f_cnt k)).map fun i => (k, i)
theorem f_en_nd : f_en.Nodup := by decide +kernel
theorem f_en_mem {k i : Nat} (hk : k < 51) (hi : i < f_cnt k) : (k, i) ∈ f_en := List.mem_flatMap.mpr ⟨k, List.mem_range.mpr hk, List.mem_map.mpr ⟨i, List.mem_range.mpr hi, rfl⟩⟩
theorem f_en_lt {q : Nat × Nat} (h : q ∈ f_en) : q.2 < f_cnt q.1 := by
  obtain ⟨k, -, h⟩ := List.mem_flatMap.mp h
  obtain ⟨i, hi, rfl⟩ := List.mem_map.mp h
  exact List.mem_range.mp hi
def f_fv (L : Nat → Nat → Nat) (z : fST) (k i j : Nat) : Value := match f_ft k j with
  | none => .int (f_gI z k i j)
  | some q => .ref (L q.1 (i + q.2))
def f_cell (L : Nat → Nat → Nat) (Ar : Nat → ClassId) (z : fST) (k i : Nat) : va_E := match f_ob k with
  | some ci => .inr (ci, (List.range (f_nf k)).map (f_fv L z k i))
  | none => match f_at k with
    | 0 => .inl (Ar 0, f_al k i, .inl (f_gI z k i))
    | 1 => .inl (Ar 1, f_al k i, .inl (f_gI z k i))
    | 2 => .inl (Ar 2, 1, .inr (.inl (fun _ => f_gO z)))
    | 3 => .inl (Ar 3, 16, .inr (.inr (.inr (.inr (fun j => some (L 13 (f_gR z j)))))))
    | _ => .inl (Ar 4, 8, .inr (.inr (.inr (.inr (fun j => some (L 9 j))))))
def f_ws (L : Nat → Nat → Nat) (Ar : Nat → ClassId) (z : fST) : va_W := f_en.map fun q => (L q.1 q.2, f_cell L Ar z q.1 q.2)
def f_A (b0 : Nat) : Nat → Prop := fun q => b0 ≤ q
/-- the addresses: apart, and none below b0 -/
def f_L (L : Nat → Nat → Nat) (b0 : Nat) : Prop := (∀ q ∈ f_en, ∀ r ∈ f_en, L q.1 q.2 = L r.1 r.2 → q = r) ∧ ∀ q ∈ f_en, b0 ≤ L q.1 q.2
def f_tys (Ar : Nat → ClassId) : List (ClassId × FieldType) := [(Ar 0, .int), (Ar 1, .boolean), (Ar 2, .long), (Ar 3, .object "BottleReturn$Container"), (Ar 4, .array .int)]
def f_K (Ar : Nat → ClassId) (D : va_G) (U : State) : Prop := va_K D vwCl (f_tys Ar) U
def f_W (L : Nat → Nat → Nat) (Ar : Nat → ClassId) (D : va_G) (z : fST) (H : Heap) : Prop := va_P D vwCl (f_ws L Ar z) H
def f_exc : Nat → String
  | 1 => "java/lang/IllegalStateException"
  | _ => "java/lang/IllegalArgumentException"
/-- what a throw reads of java.lang.Throwable's statics: they lie below b0, and nobody writes there -/
def f_zw : List Cond := [.isRef (.static "java/lang/Throwable" "UNASSIGNED_STACK" "[Ljava/lang/StackTraceElement;"), .isRef (.static "java/lang/Throwable" "SUPPRESSED_SENTINEL" "Ljava/util/List;"), .laysStatic "java/lang/Throwable" "UNASSIGNED_STACK" "[Ljava/lang/StackTraceElement;", .laysStatic "java/lang/Throwable" "SUPPRESSED_SENTINEL" "Ljava/util/List;"]
def f_Z0 (b0 : Nat) (U : State) (H : Heap) : Prop := ∀ (args : Array Value) (U' : State), U.vm.Alike U'.vm → (∀ q : Nat, q < b0 → U'.heap[q]? = H[q]?) → ∀ w ∈ f_zw, w.before args U' = true
/-- words that stay true as the tables grow warmer, though they are none of wt's: a nest mate's call, what can be cast, what is declared -/
def f_kn : Cond → Bool
  | .castable .. => true
  | .declares _ => true
  | .methodLinkNest .. => true
  | _ => false
theorem f_kn_on {w : Cond} (h : f_kn w = true) : w.onTables = true := by
  cases w <;> first | rfl | (simp [f_kn] at h; done)
theorem f_kn_warm {w : Cond} (h : f_kn w = true) {u U : State} (hW : u.WarmedH U.vm) (hZ : va_Nw w u) : va_Nw w U := by
  cases w <;> first | exact va_Nw.warmC hW hZ | exact va_Nw.warmD hW hZ | exact va_Nw.warmM hW hZ | (simp [f_kn] at h; done)
def f_N (U : State) : Prop := (∀ w ∈ tables_1, f_kn w = true → va_Nw w U) ∧ va_Nc "java/lang/IllegalArgumentException" "java/lang/IllegalStateException" U
theorem f_N.moved {u U : State} (hW : u.WarmedH U.vm) (h : f_N u) : f_N U := ⟨fun w h1 h2 => f_kn_warm h2 hW (h.1 w h1 h2), va_Nc.moved hW.alike h.2⟩
def f_Z (b0 : Nat) (U : State) (H : Heap) : Prop := f_Z0 b0 U H ∧ f_N U
theorem f_Z.moved {b0 : Nat} {u U : State} {H : Heap} (hW : u.WarmedH U.vm) (h : f_Z b0 u H) : f_Z b0 U H := ⟨fun a U' h1 h2 => h.1 a U' (hW.alike.trans h1) h2, h.2.moved hW⟩
theorem f_Z.kept {b0 : Nat} {U : State} {H H1 : Heap} (h : f_Z b0 U H) (hq : ∀ q : Nat, q < b0 → H1[q]? = H[q]?) : f_Z b0 U H1 := ⟨fun a U' h1 h2 => h.1 a U' h1 (fun q hq' => (h2 q hq').trans (hq q hq')), h.2⟩
section FW
variable {L : Nat → Nat → Nat} {Ar : Nat → ClassId} {D : va_G} {b0 : Nat} {z z' : fST} {H : Heap}
theorem f_pos {k i : Nat} (h : (k, i) ∈ f_en) : ∃ q0 : Nat, f_en[q0]? = some (k, i) ∧ ∀ z : fST, (f_ws L Ar z)[q0]? = some (L k i, f_cell L Ar z k i) := by
  obtain ⟨q0, hq⟩ := List.getElem?_of_mem h
  exact ⟨q0, hq, fun z => by simp [f_ws, hq]⟩
theorem f_D (h : f_L L b0) (z : fST) : va_D (f_A b0) (f_ws L Ar z) := by
  have key : ∀ (k : Nat) (q : Nat × va_E), (f_ws L Ar z)[k]? = some q → ∃ r, f_en[k]? = some r ∧ q.1 = L r.1 r.2 := by
    intro k q hq
    unfold f_ws at hq
    rw [List.getElem?_map] at hq
    cases hr : f_en[k]? with
    | none => rw [hr] at hq; cases hq
    | some r => rw [hr] at hq; cases hq; exact ⟨r, rfl, rfl⟩
  refine ⟨fun i j p q hp hq e => ?_, fun k q hq => ?_⟩
  · obtain ⟨r1, h1, e1⟩ := key i p hp
    obtain ⟨r2, h2, e2⟩ := key j q hq
    have hrr := h.1 r1 (List.mem_of_getElem? h1) r2 (List.mem_of_getElem? h2) (by rw [← e1, ← e2, e])
    subst hrr
    have hlt : i < f_en.length := (List.getElem?_eq_some_iff.mp h1).1
    exact (List.getElem?_inj hlt f_en_nd).mp (h1.trans h2.symm)
  · obtain ⟨r, h1, e1⟩ := key k q hq
    rw [e1]
    exact h.2 r (List.mem_of_getElem? h1)
theorem f_set {q0 k i : Nat} {E : va_E} (h : f_en[q0]? = some (k, i)) (hc : f_cell L Ar z' k i = E) (hne : ∀ q ∈ f_en, q ≠ (k, i) → f_cell L Ar z' q.1 q.2 = f_cell L Ar z q.1 q.2) : (f_ws L Ar z).set q0 (L k i, E) = f_ws L Ar z' := by
  apply List.ext_getElem?
  intro j
  by_cases hj : j = q0
  · subst hj
    have hlt : j < (f_ws L Ar z).length := by
      unfold f_ws
      rw [List.length_map]
      exact (List.getElem?_eq_some_iff.mp h).1
    rw [List.getElem?_set_self hlt]
    simp [f_ws, h, hc]
  · rw [List.getElem?_set_ne (Ne.symm hj)]
    simp only [f_ws, List.getElem?_map]
    cases hr : f_en[j]? with
    | none => rfl
    | some r =>
      have hn : r ≠ (k, i) := by
        intro e
        subst e
        exact hj ((List.getElem?_inj (List.getElem?_eq_some_iff.mp hr).1 f_en_nd).mp (hr.trans h.symm))
      simp only [Option.map_some]
      rw [hne r (List.mem_of_getElem? hr) hn]
theorem f_gI_ne {k i j k' i' : Nat} {v : Int32} (h : (k', i') ≠ (k, i)) : f_gI (f_pI z k i j v) k' i' = f_gI z k' i' := by
  funext a
  simp only [f_gI, f_pI]
  rw [if_neg]
  rintro ⟨rfl, rfl, -⟩
  exact h rfl
theorem f_cell_pI {k i j : Nat} {v : Int32} {q : Nat × Nat} (h : q ≠ (k, i)) : f_cell L Ar (f_pI z k i j v) q.1 q.2 = f_cell L Ar z q.1 q.2 := by
  have e := f_gI_ne (z := z) (j := j) (v := v) (k := k) (i := i) (k' := q.1) (i' := q.2) h
  have e2 : f_fv L (f_pI z k i j v) q.1 q.2 = f_fv L z q.1 q.2 := by
    funext a
    simp only [f_fv]
    rw [e]
  unfold f_cell
  rw [e, e2]
  rfl
end FW
