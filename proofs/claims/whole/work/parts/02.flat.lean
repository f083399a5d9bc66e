/-! The flat memory of the class and of the reference: f_gI z k i j: the int at place j of the object i of kind k; f_gR z j: which container the belt's place j holds; f_gO z: the law's out[0]. And the small words that the pure functions are made of. -/
abbrev fST : Type := (Nat → Nat → Nat → Int32) × (Nat → Nat) × Int64
def f_gI (z : fST) (k i j : Nat) : Int32 := z.1 k i j
def f_pI (z : fST) (k i j : Nat) (v : Int32) : fST := (fun a b c => if a = k ∧ b = i ∧ c = j then v else z.1 a b c, z.2)
def f_gR (z : fST) (j : Nat) : Nat := z.2.1 j
def f_pR (z : fST) (j n : Nat) : fST := (z.1, fun a => if a = j then n else z.2.1 a, z.2.2)
def f_gO (z : fST) : Int64 := z.2.2
def f_pO (z : fST) (v : Int64) : fST := (z.1, z.2.1, v)
def f_ix (x : Int32) : Nat := x.toNatClampNeg
def f_ib (x : Int32) (n : Nat) : Bool := decide (¬ (x < 0 ∨ n ≤ x.toNatClampNeg))
def f_bz (x : Int32) : Bool := decide (x = 0 ∨ x = 1)
def f_gd {α : Type} (b : Bool) (r : Option α) : Option α := if b = true then r else none
def f_bd {α β : Type} (x : Option (α × fST)) (f : α → fST → Option β) : Option β := match x with
  | none => none
  | some q => f q.1 q.2
def f_bx {α β : Type} (x : Option ((α ⊕ Nat) × fST)) (f : α → fST → Option β) (g : Nat → fST → Option β) : Option β := match x with
  | none => none
  | some (.inl v, z) => f v z
  | some (.inr n, z) => g n z
def f_cz {β : Type} (r : Option Nat) (a : β) (f : Nat → β) : β := match r with
  | none => a
  | some i => f i
def f_it {α β : Type} (f : (α → Option β) → α → Option β) : Nat → α → Option β
  | 0, _ => none
  | n + 1, v => f (f_it f n) v
def f_us (x y : Int32) : Int32 := (x.toUInt32 >>> (y.toUInt32 &&& Int32.toUInt32 31)).toInt32
def f_ab (x : Int32) : Int32 := if 0 ≤ x then x else 0 - x
def f_cpL (z : fST) (i : Nat) : fST := (fun a b c => if a = 25 ∧ b = 0 ∧ c < 8 then z.1 15 i c else z.1 a b c, z.2)
def f_ln (i : Nat) : Nat := if i < 16 then 3 else 8
theorem f_gd_some {α : Type} {b : Bool} {r : Option α} {x : α} (h : f_gd b r = some x) : b = true ∧ r = some x := by
  unfold f_gd at h
  split at h
  · exact ⟨by assumption, h⟩
  · cases h
theorem f_bd_some {α β : Type} {x : Option (α × fST)} {f : α → fST → Option β} {y : β} (h : f_bd x f = some y) : ∃ v z, x = some (v, z) ∧ f v z = some y := by
  cases x with
  | none => cases h
  | some q => exact ⟨q.1, q.2, rfl, h⟩
theorem f_bx_some {α β : Type} {x : Option ((α ⊕ Nat) × fST)} {f : α → fST → Option β} {g : Nat → fST → Option β} {y : β} (h : f_bx x f g = some y) : (∃ v z, x = some (.inl v, z) ∧ f v z = some y) ∨ ∃ n z, x = some (.inr n, z) ∧ g n z = some y := by
  cases x with
  | none => cases h
  | some q =>
    obtain ⟨a, z⟩ := q
    cases a with
    | inl v => exact Or.inl ⟨v, z, rfl, h⟩
    | inr n => exact Or.inr ⟨n, z, rfl, h⟩
theorem f_cz_n {β : Type} {a : β} {f : Nat → β} {r : β} (h : f_cz none a f = r) : a = r := h
theorem f_cz_s {β : Type} {a : β} {f : Nat → β} {r : β} {i : Nat} (h : f_cz (some i) a f = r) : f i = r := h
theorem f_it_s {α β : Type} {f : (α → Option β) → α → Option β} {n : Nat} {v : α} {r : Option β} (h : f_it f (n + 1) v = r) : f (f_it f n) v = r := h
theorem f_ib_in {x : Int32} {n : Nat} (h : f_ib x n = true) : vp_in x n := (of_decide_eq_true h : ¬ (x < 0 ∨ n ≤ x.toNatClampNeg))
theorem f_ib_lt {x : Int32} {n : Nat} (h : f_ib x n = true) : f_ix x < n := Nat.not_le.mp fun q => (of_decide_eq_true h : ¬ (x < 0 ∨ n ≤ x.toNatClampNeg)) (Or.inr q)
theorem f_bz_or {x : Int32} (h : f_bz x = true) : x = 0 ∨ x = 1 := (of_decide_eq_true h : x = 0 ∨ x = 1)
def f_ob (k : Nat) : Option Nat := if k = 0 then some 0 else if k = 1 then some 1 else if k = 11 then some 2 else if k = 13 then some 3 else if k = 14 then some 4 else if k = 16 then some 5 else if k = 19 then some 6 else if k = 23 then some 7 else if k = 24 then some 8 else if k = 30 then some 9 else none
def f_nf (k : Nat) : Nat := if k = 0 then 12 else if k = 1 then 8 else if k = 11 then 3 else if k = 13 then 9 else if k = 14 then 2 else if k = 16 then 2 else if k = 19 then 6 else if k = 23 then 3 else if k = 24 then 2 else if k = 30 then 26 else 0
def f_ft (k j : Nat) : Option (Nat × Nat) := if k = 0 then (if j = 0 then some (1, 0) else if j = 1 then some (11, 0) else if j = 2 then some (16, 0) else if j = 3 then some (19, 0) else if j = 4 then some (23, 0) else if j = 5 then some (24, 0) else if j = 6 then some (26, 0) else none) else if k = 1 then (if j = 0 then some (2, 0) else if j = 1 then some (3, 0) else if j = 2 then some (4, 0) else if j = 3 then some (5, 0) else if j = 4 then some (6, 0) else if j = 5 then some (7, 0) else if j = 6 then some (8, 0) else if j = 7 then some (10, 0) else none) else if k = 11 then (if j = 0 then some (12, 0) else none) else if k = 13 then (if j = 0 then some (14, 0) else if j = 1 then some (14, 16) else none) else if k = 14 then (if j = 0 then some (15, 0) else none) else if k = 16 then (if j = 0 then some (17, 0) else if j = 1 then some (18, 0) else none) else if k = 19 then (if j = 0 then some (20, 0) else if j = 1 then some (21, 0) else if j = 2 then some (22, 0) else none) else if k = 23 then (none) else if k = 24 then (if j = 0 then some (25, 0) else none) else if k = 30 then (if j = 0 then some (31, 0) else if j = 1 then some (32, 0) else if j = 2 then some (33, 0) else if j = 3 then some (34, 0) else if j = 6 then some (35, 0) else if j = 7 then some (36, 0) else if j = 9 then some (37, 0) else if j = 10 then some (38, 0) else if j = 11 then some (39, 0) else if j = 14 then some (40, 0) else if j = 20 then some (41, 0) else none) else none
def f_at (k : Nat) : Nat := if k = 12 then 3 else if k = 8 then 4 else if k = 50 then 2 else if k = 22 ∨ k = 39 then 1 else 0
def f_al (k i : Nat) : Nat := if k = 15 then f_ln i else if k = 2 then 40 else if k = 3 then 40 else if k = 4 then 40 else if k = 5 then 40 else if k = 6 then 40 else if k = 7 then 40 else if k = 9 then 8 else if k = 10 then 8 else if k = 17 then 3 else if k = 18 then 3 else if k = 20 then 60 else if k = 21 then 60 else if k = 22 then 60 else if k = 25 then 8 else if k = 26 then 10 else if k = 31 then 64 else if k = 32 then 8 else if k = 33 then 240 else if k = 34 then 1200 else if k = 35 then 3 else if k = 36 then 3 else if k = 37 then 60 else if k = 38 then 60 else if k = 39 then 60 else if k = 40 then 24 else if k = 41 then 10 else 0
