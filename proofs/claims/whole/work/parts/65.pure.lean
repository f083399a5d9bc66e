set_option linter.unusedVariables false
set_option linter.unusedSimpArgs false
/-! small words on Int32, on the flat memory and on loops -/
theorem q_n (n : Nat) : nI n = Int32.ofNat n := rfl
theorem q_tn {n : Nat} (h : n < 2147483648) : (nI n).toInt = n := Int32.toInt_ofNat_of_lt h
theorem q_n1 (n : Nat) : nI n + 1 = nI (n + 1) := (Int32.ofNat_add n 1).symm
theorem q_na (n m : Nat) : nI n + nI m = nI (n + m) := (Int32.ofNat_add n m).symm
theorem q_nm (n m : Nat) : nI n * nI m = nI (n * m) := (Int32.ofNat_mul n m).symm
theorem q_np {n : Nat} (h : 0 < n) : nI n - 1 = nI (n - 1) := by
  obtain ⟨m, rfl⟩ : ∃ m, n = m + 1 := ⟨n - 1, by omega⟩
  rw [← q_n1]; simp
theorem q_np' {n : Nat} (h : 0 < n) : nI n + (-1) = nI (n - 1) := by
  rw [← q_np h, Int32.sub_eq_add_neg]
theorem q_le {n m : Nat} (h : n < 2147483648) (h' : m < 2147483648) : nI n ≤ nI m ↔ n ≤ m := by
  rw [Int32.le_iff_toInt_le, q_tn h, q_tn h']; omega
theorem q_lt {n m : Nat} (h : n < 2147483648) (h' : m < 2147483648) : nI n < nI m ↔ n < m := by
  rw [Int32.lt_iff_toInt_lt, q_tn h, q_tn h']; omega
theorem q_eq {n m : Nat} (h : n < 2147483648) (h' : m < 2147483648) : nI n = nI m ↔ n = m := by
  rw [← Int32.toInt_inj, q_tn h, q_tn h']; omega
theorem q_ix {n : Nat} (h : n < 2147483648) : f_ix (nI n) = n := by
  unfold f_ix; rw [← Int32.toNat_toInt, q_tn h]; rfl
theorem q_ixz (x : Int32) : f_ix x = x.toInt.toNat := by
  unfold f_ix; rw [← Int32.toNat_toInt]
theorem q_ibz {x : Int32} {n : Nat} (h : 0 ≤ x.toInt) (h' : x.toInt < n) : f_ib x n = true := by
  unfold f_ib
  rw [decide_eq_true_iff, Int32.lt_iff_toInt_lt, ← Int32.toNat_toInt]
  have : (0 : Int32).toInt = 0 := rfl
  omega
theorem q_ib {k n : Nat} (h : k < n) (h' : n < 2147483648) : f_ib (nI k) n = true :=
  q_ibz (by rw [q_tn (by omega)]; omega) (by rw [q_tn (by omega)]; omega)
/-- an Int32 that is not negative is the nI of its number -/
theorem q_ex {x : Int32} (h : 0 ≤ x.toInt) : x = nI x.toInt.toNat := by
  rw [← Int32.toInt_inj, q_tn]
  · omega
  · have := Int32.toInt_lt x; omega
theorem q_add {a b : Int32} (h : -2147483648 ≤ a.toInt + b.toInt) (h' : a.toInt + b.toInt < 2147483648) : (a + b).toInt = a.toInt + b.toInt := by
  rw [Int32.toInt_add]; exact Int.bmod_eq_of_le (by omega) (by omega)
theorem q_sub {a b : Int32} (h : -2147483648 ≤ a.toInt - b.toInt) (h' : a.toInt - b.toInt < 2147483648) : (a - b).toInt = a.toInt - b.toInt := by
  rw [Int32.toInt_sub]; exact Int.bmod_eq_of_le (by omega) (by omega)
theorem q_gd {α : Type} {b : Bool} {r : Option α} (h : b = true) : f_gd b r = r := by unfold f_gd; rw [if_pos h]
theorem q_gd' {α : Type} {p : Prop} [Decidable p] {r : Option α} (h : p) : f_gd (decide p) r = r := q_gd (decide_eq_true h)
theorem q_bd {α β : Type} {v : α} {z : fST} {f : α → fST → Option β} : f_bd (some (v, z)) f = f v z := rfl
theorem q_bl {α β : Type} {v : α} {z : fST} {f : α → fST → Option β} {gg : Nat → fST → Option β} : f_bx (some (.inl v, z)) f gg = f v z := rfl
theorem q_br {α β : Type} {n : Nat} {z : fST} {f : α → fST → Option β} {gg : Nat → fST → Option β} : f_bx (some (.inr n, z)) f gg = gg n z := rfl
theorem g_eq {z : fST} {k i j : Nat} {v : Int32} : f_gI (f_pI z k i j v) k i j = v := by simp [f_gI, f_pI]
theorem g_ne {z : fST} {k i j a b c : Nat} {v : Int32} (h : a ≠ k ∨ b ≠ i ∨ c ≠ j) : f_gI (f_pI z k i j v) a b c = f_gI z a b c := by
  unfold f_gI f_pI
  exact if_neg (by rintro ⟨rfl, rfl, rfl⟩; rcases h with h | h | h <;> exact h rfl)
theorem g_if {z : fST} {k i j a b c : Nat} {v : Int32} : f_gI (f_pI z k i j v) a b c = if a = k ∧ b = i ∧ c = j then v else f_gI z a b c := rfl
theorem g_R {z : fST} {k i j a : Nat} {v : Int32} : f_gR (f_pI z k i j v) a = f_gR z a := rfl
theorem g_O {z : fST} {k i j : Nat} {v : Int32} : f_gO (f_pI z k i j v) = f_gO z := rfl
theorem g_IR {z : fST} {j n a b c : Nat} : f_gI (f_pR z j n) a b c = f_gI z a b c := rfl
theorem g_IO {z : fST} {v : Int64} {a b c : Nat} : f_gI (f_pO z v) a b c = f_gI z a b c := rfl
theorem g_RO {z : fST} {v : Int64} {a : Nat} : f_gR (f_pO z v) a = f_gR z a := rfl
theorem g_OO {z : fST} {v : Int64} : f_gO (f_pO z v) = v := rfl
theorem g_OR {z : fST} {j n : Nat} : f_gO (f_pR z j n) = f_gO z := rfl
theorem g_RRe {z : fST} {j n : Nat} : f_gR (f_pR z j n) j = n := by simp [f_gR, f_pR]
theorem g_RRn {z : fST} {j n a : Nat} (h : a ≠ j) : f_gR (f_pR z j n) a = f_gR z a := by simp [f_gR, f_pR, h]
/-- the first place from j on, of d places, at which P holds -/
def q_first (P : Nat → Bool) : Nat → Nat → Option Nat
  | _, 0 => none
  | j, d + 1 => if P j = true then some j else q_first P (j + 1) d
theorem q_first_some {P : Nat → Bool} : ∀ d j i, q_first P j d = some i → j ≤ i ∧ i < j + d ∧ P i = true := by
  intro d
  induction d with
  | zero => intro j i h; cases h
  | succ d ih =>
    intro j i h
    unfold q_first at h
    split at h
    · cases h; exact ⟨Nat.le_refl _, by omega, by assumption⟩
    · obtain ⟨a, b, c⟩ := ih _ _ h
      exact ⟨by omega, by omega, c⟩
theorem q_first_none {P : Nat → Bool} : ∀ d j, q_first P j d = none → ∀ i, j ≤ i → i < j + d → P i = false := by
  intro d
  induction d with
  | zero => intro j _ i h1 h2; omega
  | succ d ih =>
    intro j h i h1 h2
    unfold q_first at h
    split at h
    · cases h
    · by_cases e : i = j
      · subst e; simpa using ‹¬ P i = true›
      · exact ih _ h i (by omega) (by omega)
theorem q_first_congr {P Q : Nat → Bool} : ∀ d j, (∀ i, j ≤ i → i < j + d → P i = Q i) → q_first P j d = q_first Q j d := by
  intro d
  induction d with
  | zero => intros; rfl
  | succ d ih =>
    intro j h
    unfold q_first
    rw [h j (Nat.le_refl _) (by omega), ih (j + 1) fun i a b => h i (by omega) (by omega)]
/-- a loop that looks for a place -/
theorem q_srch {α β : Type} {body : (α → Option β) → α → Option β} (mk : Nat → α) (N : Nat) (P : Nat → Bool) (no : β) (yes : Nat → β) (hn : ∀ k, body k (mk N) = some no) (hs : ∀ k j, j < N → body k (mk j) = if P j = true then some (yes j) else k (mk (j + 1))) : ∀ d j n, j + d = N → d < n → f_it body n (mk j) = some (match q_first P j d with | none => no | some i => yes i) := by
  intro d
  induction d with
  | zero =>
    intro j n hj hn'
    obtain ⟨n, rfl⟩ : ∃ m, n = m + 1 := ⟨n - 1, by omega⟩
    obtain rfl : j = N := by omega
    show body (f_it body n) (mk j) = _
    rw [hn]; rfl
  | succ d ih =>
    intro j n hj hn'
    obtain ⟨n, rfl⟩ : ∃ m, n = m + 1 := ⟨n - 1, by omega⟩
    show body (f_it body n) (mk j) = _
    rw [hs _ _ (by omega)]
    unfold q_first
    split
    · rfl
    · exact ih (j + 1) n (by omega) (by omega)
theorem q_srch0 {α β : Type} {body : (α → Option β) → α → Option β} (mk : Nat → α) (N : Nat) (P : Nat → Bool) (no : β) (yes : Nat → β) (hN : N < 2000) (hn : ∀ k, body k (mk N) = some no) (hs : ∀ k j, j < N → body k (mk j) = if P j = true then some (yes j) else k (mk (j + 1))) : f_it body 2000 (mk 0) = some (match q_first P 0 N with | none => no | some i => yes i) :=
  q_srch mk N P no yes hn hs N 0 2000 (by omega) hN
/-- a loop that goes through every place, with what holds before each -/
theorem q_loop {α β σ : Type} {body : (α → Option β) → α → Option β} (mk : Nat → σ → α) (N : Nat) (Inv : Nat → σ → Prop) (fin : σ → Option β) (hf : ∀ k s, Inv N s → body k (mk N s) = fin s) (hs : ∀ j s, j < N → Inv j s → ∃ s', (∀ k, body k (mk j s) = k (mk (j + 1) s')) ∧ Inv (j + 1) s') : ∀ d j n s, j + d = N → d < n → Inv j s → ∃ s', Inv N s' ∧ f_it body n (mk j s) = fin s' := by
  intro d
  induction d with
  | zero =>
    intro j n s hj hn hi
    obtain ⟨n, rfl⟩ : ∃ m, n = m + 1 := ⟨n - 1, by omega⟩
    obtain rfl : j = N := by omega
    exact ⟨s, hi, hf _ s hi⟩
  | succ d ih =>
    intro j n s hj hn hi
    obtain ⟨n, rfl⟩ : ∃ m, n = m + 1 := ⟨n - 1, by omega⟩
    obtain ⟨s', h1, h2⟩ := hs j s (by omega) hi
    obtain ⟨t, h3, h4⟩ := ih (j + 1) n s' (by omega) (by omega) h2
    exact ⟨t, h3, by show body (f_it body n) (mk j s) = _; rw [h1, h4]⟩
theorem q_loop0 {α β σ : Type} {body : (α → Option β) → α → Option β} (mk : Nat → σ → α) (N : Nat) (Inv : Nat → σ → Prop) (fin : σ → Option β) (hN : N < 2000) (hf : ∀ k s, Inv N s → body k (mk N s) = fin s) (hs : ∀ j s, j < N → Inv j s → ∃ s', (∀ k, body k (mk j s) = k (mk (j + 1) s')) ∧ Inv (j + 1) s') (s : σ) (hi : Inv 0 s) : ∃ s', Inv N s' ∧ f_it body 2000 (mk 0 s) = fin s' :=
  q_loop mk N Inv fin hf hs N 0 2000 s (by omega) hN hi
/-- a sum over the first N places -/
def q_sm (f : Nat → Nat) : Nat → Nat
  | 0 => 0
  | n + 1 => q_sm f n + f n
theorem q_sm_congr {f h : Nat → Nat} : ∀ N, (∀ j, j < N → f j = h j) → q_sm f N = q_sm h N := by
  intro N
  induction N with
  | zero => intros; rfl
  | succ N ih => intro e; unfold q_sm; rw [ih fun j a => e j (by omega), e N (by omega)]
theorem q_sm_upd {f h : Nat → Nat} {i : Nat} : ∀ N, i < N → (∀ j, j < N → j ≠ i → h j = f j) → q_sm h N + f i = q_sm f N + h i := by
  intro N
  induction N with
  | zero => intro h; omega
  | succ N ih =>
    intro hi e
    unfold q_sm
    by_cases c : i = N
    · subst c
      rw [q_sm_congr i fun j a => e j (by omega) (by omega)]; omega
    · have := ih (by omega) fun j a b => e j (by omega) b
      rw [e N (by omega) (by omega)]; omega
theorem q_sm_del {f h : Nat → Nat} {i : Nat} : ∀ N, i ≤ N → (∀ j, j < i → h j = f j) → (∀ j, i ≤ j → j < N → h j = f (j + 1)) → q_sm h N + f i = q_sm f (N + 1) := by
  intro N
  induction N with
  | zero => intro hi e1 e2; obtain rfl : i = 0 := by omega
            rfl
  | succ N ih =>
    intro hi e1 e2
    by_cases c : i = N + 1
    · subst c
      show q_sm h (N + 1) + f (N + 1) = q_sm f (N + 1) + f (N + 1)
      rw [q_sm_congr (N + 1) fun j a => e1 j a]
    · have := ih (by omega) e1 fun j a b => e2 j a (by omega)
      show q_sm h N + h N + f i = q_sm f (N + 1) + f (N + 1)
      rw [e2 N (by omega) (by omega)]; omega
