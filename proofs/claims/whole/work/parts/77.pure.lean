set_option linter.unusedVariables false
set_option linter.unusedSimpArgs false
/-! the numbers that check themselves -/
theorem q_ns {a b : Nat} (h : b ≤ a) : nI a - nI b = nI (a - b) := by
  have : nI (a - b) + nI b = nI a := by rw [q_na, show a - b + b = a by omega]
  rw [← this]; simp
theorem q_nd {a b : Nat} (ha : a < 2147483648) (hb : b < 2147483648) : nI a / nI b = nI (a / b) := by
  have hd : a / b < 2147483648 := Nat.lt_of_le_of_lt (Nat.div_le_self a b) ha
  apply Int32.toInt_inj.mp
  rw [Int32.toInt_div, q_tn ha, q_tn hb, q_tn hd, Int.tdiv_eq_ediv_of_nonneg (by omega)]
  have : ((a : Int) / (b : Int)) = ((a / b : Nat) : Int) := by simp
  rw [this]
  generalize a / b = q at hd
  exact Int.bmod_eq_of_le (by omega) (by omega)
theorem q_nr {a b : Nat} (ha : a < 2147483648) (hb : b < 2147483648) : nI a - nI a / nI b * nI b = nI (a % b) := by
  rw [q_nd ha hb, q_nm, q_ns (Nat.div_mul_le_self a b)]
  congr 1
  have := Nat.div_add_mod a b
  rw [Nat.mul_comm] at this
  omega
def nL (n : Nat) : Int64 := Int64.ofNat n
theorem L_t {n : Nat} (h : n < 9223372036854775808) : (nL n).toInt = n := Int64.toInt_ofNat_of_lt h
theorem L_a (n m : Nat) : nL n + nL m = nL (n + m) := (Int64.ofNat_add n m).symm
theorem L_m (n m : Nat) : nL n * nL m = nL (n * m) := (Int64.ofNat_mul n m).symm
theorem L_s {a b : Nat} (h : b ≤ a) : nL a - nL b = nL (a - b) := by
  have : nL (a - b) + nL b = nL a := by rw [L_a, show a - b + b = a by omega]
  rw [← this]; simp
theorem L_d {a b : Nat} (ha : a < 9223372036854775808) (hb : b < 9223372036854775808) : nL a / nL b = nL (a / b) := by
  have hd : a / b < 9223372036854775808 := Nat.lt_of_le_of_lt (Nat.div_le_self a b) ha
  apply Int64.toInt_inj.mp
  rw [Int64.toInt_div, L_t ha, L_t hb, L_t hd, Int.tdiv_eq_ediv_of_nonneg (by omega)]
  have : ((a : Int) / (b : Int)) = ((a / b : Nat) : Int) := by simp
  rw [this]
  generalize a / b = q at hd
  exact Int.bmod_eq_of_le (by omega) (by omega)
theorem L_r {a b : Nat} (ha : a < 9223372036854775808) (hb : b < 9223372036854775808) : nL a - nL a / nL b * nL b = nL (a % b) := by
  rw [L_d ha hb, L_m, L_s (Nat.div_mul_le_self a b)]
  congr 1
  have := Nat.div_add_mod a b
  rw [Nat.mul_comm] at this
  omega
theorem L_c {a : Nat} (h : a < 2147483648) : (nI a).toInt64 = nL a := by
  apply Int64.toInt_inj.mp
  rw [Int32.toInt_toInt64, q_tn h, L_t (by omega)]
theorem L_i {a : Nat} (h : a < 2147483648) : (nL a).toInt32 = nI a := by
  apply Int32.toInt_inj.mp
  rw [Int64.toInt_toInt32, L_t (by omega), q_tn h]
  exact Int.bmod_eq_of_le (by omega) (by omega)
theorem L_e {a b : Nat} (ha : a < 9223372036854775808) (hb : b < 9223372036854775808) : lg_cmp (nL a) (nL b) = 0 ↔ a = b := by
  unfold lg_cmp
  constructor
  · intro h
    split at h
    · cases h
    · split at h
      · rename_i q
        have := congrArg Int64.toInt q
        rw [L_t ha, L_t hb] at this; omega
      · cases h
  · rintro rfl
    rw [if_neg (by rw [gt_iff_lt, Int64.lt_iff_toInt_lt]; omega), if_pos rfl]
/-- the reference's remainder, digit by digit -/
theorem s_rest27 {x : Nat} (hx : x < 2147483648) (z : fST) : ∀ t r n, t ≤ 7 → r < 97 → t + 1 < n → f_it b_m_rest_27 n (nI x, nI r, nI (10 ^ t), z) = some (nI ((r * 10 ^ (t + 1) + x % 10 ^ (t + 1)) % 97), z) := by
  have step : ∀ t r n, t ≤ 7 → r < 97 → f_it b_m_rest_27 (n + 1) (nI x, nI r, nI (10 ^ t), z) = f_it b_m_rest_27 n (nI x, nI ((10 * r + x / 10 ^ t % 10) % 97), nI (10 ^ t / 10), z) := by
    intro t r n ht hr
    have p7 : 10 ^ t ≤ 10 ^ 7 := Nat.pow_le_pow_right (by decide) ht
    have p0 : 0 < 10 ^ t := Nat.pow_pos (by decide)
    have d1 : x / 10 ^ t < 2147483648 := Nat.lt_of_le_of_lt (Nat.div_le_self _ _) hx
    have d2 : x / 10 ^ t % 10 < 10 := Nat.mod_lt _ (by decide)
    show b_m_rest_27 _ _ = _
    simp only [b_m_rest_27]
    rw [if_neg (by rw [show (0 : Int32) = nI 0 from rfl, q_le (by omega) (by omega)]; omega), q_gd' (by rw [show (0 : Int32) = nI 0 from rfl, q_eq (by omega) (by omega)]; omega)]
    rw [show (10 : Int32) = nI 10 from rfl, show (97 : Int32) = nI 97 from rfl, q_nd (by omega) (by omega), q_nr (by omega) (by omega), q_nm, q_na, q_nr (by omega) (by omega), q_nd (by omega) (by omega)]
  intro t
  induction t with
  | zero =>
    intro r n ht hr hn
    obtain ⟨n, rfl⟩ : ∃ k, n = k + 2 := ⟨n - 2, by omega⟩
    rw [step 0 r (n + 1) (by omega) hr]
    show b_m_rest_27 _ _ = _
    simp only [b_m_rest_27]
    rw [if_pos (by decide)]
    simp [Nat.mul_comm]
  | succ t ih =>
    intro r n ht hr hn
    obtain ⟨n, rfl⟩ : ∃ k, n = k + 1 := ⟨n - 1, by omega⟩
    rw [step (t + 1) r n ht hr]
    have e : 10 ^ (t + 1) / 10 = 10 ^ t := by rw [Nat.pow_succ, Nat.mul_div_cancel _ (by decide)]
    rw [e, ih _ n (by omega) (Nat.mod_lt _ (by decide)) (by omega)]
    congr 3
    have m1 : x % 10 ^ (t + 1 + 1) = x % 10 ^ (t + 1) + 10 ^ (t + 1) * (x / 10 ^ (t + 1) % 10) := by rw [Nat.pow_succ 10 (t + 1), Nat.mod_mul]
    rw [m1]
    have : r * 10 ^ (t + 1 + 1) + (x % 10 ^ (t + 1) + 10 ^ (t + 1) * (x / 10 ^ (t + 1) % 10)) = (10 * r + x / 10 ^ (t + 1) % 10) * 10 ^ (t + 1) + x % 10 ^ (t + 1) := by
      rw [Nat.pow_succ 10 (t + 1), Nat.add_mul, Nat.mul_comm 10 r, Nat.mul_assoc r 10, Nat.mul_comm 10 (10 ^ (t + 1)), Nat.mul_comm (10 ^ (t + 1)) (x / 10 ^ (t + 1) % 10)]; omega
    rw [this, Nat.add_mod, Nat.mul_mod, Nat.mod_mod, ← Nat.mul_mod, ← Nat.add_mod]
theorem s_rest {L x r : Nat} (hL : L ≤ 7) (hx : x < 10 ^ (L + 1)) (hr : r < 97) (z : fST) : F_m_rest (nI x) (nI (L + 1)) (nI r) z = some (nI ((r * 10 ^ (L + 1) + x) % 97), z) := by
  have p8 : 10 ^ (L + 1) ≤ 10 ^ 8 := Nat.pow_le_pow_right (by decide) (by omega)
  have hx' : x < 2147483648 := by omega
  refine Exists.elim (q_loop0 (body := b_m_rest_8) (fun j (_ : Unit) => (nI x, nI (L + 1), nI r, nI (10 ^ j), nI (j + 1), z)) L (fun _ _ => True) (fun _ => f_it b_m_rest_27 2000 (nI x, nI r, nI (10 ^ L), z)) (by omega) ?_ ?_ () trivial) ?_
  · intro k _ _
    simp only [b_m_rest_8, Int32.le_refl, if_true]
  · intro j _ hj _
    refine ⟨(), fun k => ?_, trivial⟩
    simp only [b_m_rest_8]
    rw [if_neg (by rw [q_le (by omega) (by omega)]; omega), q_n1, show (10 : Int32) = nI 10 from rfl, q_nm, Nat.mul_comm, ← Nat.pow_succ]
  · rintro _ ⟨_, h⟩
    have e : F_m_rest (nI x) (nI (L + 1)) (nI r) z = f_it b_m_rest_8 2000 (nI x, nI (L + 1), nI r, nI (10 ^ 0), nI (0 + 1), z) := rfl
    rw [e, h, s_rest27 hx' z L r 2000 hL hr (by omega), Nat.mod_eq_of_lt hx]
theorem s_rest8 {x r : Nat} (hx : x < 100000000) (hr : r < 97) (z : fST) : F_m_rest (nI x) 8 (nI r) z = some (nI ((r * 100000000 + x) % 97), z) := s_rest (L := 7) (by omega) hx hr z
theorem s_rest6 {x r : Nat} (hx : x < 1000000) (hr : r < 97) (z : fST) : F_m_rest (nI x) 6 (nI r) z = some (nI ((r * 1000000 + x) % 97), z) := s_rest (L := 5) (by omega) hx hr z
theorem s_rest4 {x r : Nat} (hx : x < 10000) (hr : r < 97) (z : fST) : F_m_rest (nI x) 4 (nI r) z = some (nI ((r * 10000 + x) % 97), z) := s_rest (L := 3) (by omega) hx hr z
