set_option linter.unusedVariables false
set_option linter.unusedSimpArgs false
/-! the loops that look for a place, in both -/
theorem m_get {j f : Nat} {m : fST} (h : 20 * j + f < 1200) : F_m_get (nI j) (nI f) m = some (f_gI m 34 0 (20 * j + f), m) := by
  have e : (20 : Int32) * nI j + nI f = nI (20 * j + f) := by rw [show (20 : Int32) = nI 20 from rfl, q_nm, q_na]
  unfold F_m_get
  rw [e, q_gd (q_ib h (by omega)), q_ix (by omega)]
theorem m_g0 {j : Nat} {m : fST} (h : j < 60) : F_m_get (nI j) 0 m = some (f_gI m 34 0 (20 * j), m) := m_get (f := 0) (by omega)
theorem m_g1 {j : Nat} {m : fST} (h : j < 60) : F_m_get (nI j) 1 m = some (f_gI m 34 0 (20 * j + 1), m) := m_get (f := 1) (by omega)
theorem m_g2 {j : Nat} {m : fST} (h : j < 60) : F_m_get (nI j) 2 m = some (f_gI m 34 0 (20 * j + 2), m) := m_get (f := 2) (by omega)
theorem m_g3 {j : Nat} {m : fST} (h : j < 60) : F_m_get (nI j) 3 m = some (f_gI m 34 0 (20 * j + 3), m) := m_get (f := 3) (by omega)
theorem m_g4 {j : Nat} {m : fST} (h : j < 60) : F_m_get (nI j) 4 m = some (f_gI m 34 0 (20 * j + 4), m) := m_get (f := 4) (by omega)
theorem m_g5 {j : Nat} {m : fST} (h : j < 60) : F_m_get (nI j) 5 m = some (f_gI m 34 0 (20 * j + 5), m) := m_get (f := 5) (by omega)
theorem m_g6 {j : Nat} {m : fST} (h : j < 60) : F_m_get (nI j) 6 m = some (f_gI m 34 0 (20 * j + 6), m) := m_get (f := 6) (by omega)
theorem m_g7 {j : Nat} {m : fST} (h : j < 60) : F_m_get (nI j) 7 m = some (f_gI m 34 0 (20 * j + 7), m) := m_get (f := 7) (by omega)
theorem m_g8 {j : Nat} {m : fST} (h : j < 60) : F_m_get (nI j) 8 m = some (f_gI m 34 0 (20 * j + 8), m) := m_get (f := 8) (by omega)
theorem m_g9 {j : Nat} {m : fST} (h : j < 60) : F_m_get (nI j) 9 m = some (f_gI m 34 0 (20 * j + 9), m) := m_get (f := 9) (by omega)
theorem m_put {j f : Nat} {v : Int32} {m : fST} (h : 20 * j + f < 1200) : F_m_put (nI j) (nI f) v m = some ((), f_pI m 34 0 (20 * j + f) v) := by
  have e : (20 : Int32) * nI j + nI f = nI (20 * j + f) := by rw [show (20 : Int32) = nI 20 from rfl, q_nm, q_na]
  unfold F_m_put
  rw [e, q_gd (q_ib h (by omega)), q_ix (by omega)]
theorem m_rear {j : Nat} {m : fST} (h : j < 60) : F_m_rear (nI j) m = some (f_gI m 34 0 (20 * j + 2) - f_gI m 34 0 (20 * j + 1), m) := by
  unfold F_m_rear
  rw [m_g2 h, q_bd, m_g1 h, q_bd]
theorem s_blocked {N : Nat} {c m : fST} (h : rBelt N c m) : ∃ v, F_be_isBlocked c = some (v, c) ∧ F_m_isBlocked m = some (v, m) ∧ ((v = 0 ∧ ∀ j, j < N → f_gI c 13 (f_gR c j) 4 = 104 → f_gI c 13 (f_gR c j) 6 = 10) ∨ v = 1) := by
  have n13 := h.n13
  have e1 : F_be_isBlocked c = some (match q_first (fun j => decide (f_gI c 13 (f_gR c j) 4 = 104 ∧ ¬ f_gI c 13 (f_gR c j) 6 = 10)) 0 N with | none => ((0 : Int32), c) | some i => ((1 : Int32), c)) := by
    refine q_srch0 (fun j => (nI j, c)) N _ _ (fun _ => ((1 : Int32), c)) (by omega) ?_ ?_
    · intro k
      simp only [b_be_isBlocked_2, h.cnt, Int32.le_refl, if_true]
    · intro k j hj
      simp only [b_be_isBlocked_2, b_be_isBlocked_40, h.cnt, q_ix (show j < 2147483648 by omega), q_gd (q_ib (show j < 16 by omega) (by decide)), q_gd' (h.rlt j (by omega)), q_n1]
      rw [if_neg (by rw [q_le (by omega) (by omega)]; omega)]
      by_cases a : f_gI c 13 (f_gR c j) 4 = 104 <;> by_cases b : f_gI c 13 (f_gR c j) 6 = 10 <;> simp [a, b]
  have e2 : F_m_isBlocked m = some (match q_first (fun j => decide (f_gI c 13 (f_gR c j) 4 = 104 ∧ ¬ f_gI c 13 (f_gR c j) 6 = 10)) 0 N with | none => ((0 : Int32), m) | some i => ((1 : Int32), m)) := by
    refine q_srch0 (fun j => (nI j, m)) N _ _ (fun _ => ((1 : Int32), m)) (by omega) ?_ ?_
    · intro k
      simp only [b_m_isBlocked_2, h.siz, Int32.le_refl, if_true]
    · intro k j hj
      simp only [b_m_isBlocked_2, b_m_isBlocked_34, h.siz, m_g2 (show j < 60 by omega), m_g3 (show j < 60 by omega), q_bd, ← (h.row j hj).fro, ← (h.row j hj).jud, q_n1]
      rw [if_neg (by rw [q_le (by omega) (by omega)]; omega)]
      by_cases a : f_gI c 13 (f_gR c j) 4 = 104 <;> by_cases b : f_gI c 13 (f_gR c j) 6 = 10 <;> simp [a, b]
  cases q : q_first (fun j => decide (f_gI c 13 (f_gR c j) 4 = 104 ∧ ¬ f_gI c 13 (f_gR c j) 6 = 10)) 0 N with
  | none =>
    rw [q] at e1 e2
    refine ⟨0, e1, e2, Or.inl ⟨rfl, fun j hj a => ?_⟩⟩
    have := q_first_none N 0 q j (by omega) (by omega)
    by_cases b : f_gI c 13 (f_gR c j) 6 = 10
    · exact b
    · simp [a, b] at this
  | some i =>
    rw [q] at e1 e2
    exact ⟨1, e1, e2, Or.inr rfl⟩
/-- the rear, where nothing overflows -/
theorem q_rear {c : fST} {p : Nat} (h1 : 0 ≤ (f_gI c 13 p 3).toInt) (h2 : (f_gI c 13 p 3).toInt ≤ 1000) (h3 : -1000 ≤ (f_gI c 13 p 4).toInt) (h4 : (f_gI c 13 p 4).toInt ≤ 1000) : (f_gI c 13 p 4 - f_gI c 13 p 3).toInt = (f_gI c 13 p 4).toInt - (f_gI c 13 p 3).toInt := q_sub (by omega) (by omega)
theorem rOk.rear {c : fST} {p : Nat} (h : rOk c p) : (f_gI c 13 p 4 - f_gI c 13 p 3).toInt = (f_gI c 13 p 4).toInt - (f_gI c 13 p 3).toInt := by
  have := h.ln1
  have := h.ln2
  have := h.fr0
  have := h.fr1
  exact q_rear (by omega) (by omega) (by omega) (by omega)
theorem s_over {N : Nat} {c m : fST} (h : rBelt N c m) (x : Int32) : (F_be_over x c = some (none, c) ∧ F_m_over x m = some (-1, m)) ∨ ∃ j, j < N ∧ F_be_over x c = some (some (f_gR c j), c) ∧ F_m_over x m = some (nI j, m) := by
  have n13 := h.n13
  have e1 : F_be_over x c = some (match q_first (fun j => decide (¬ x ≤ f_gI c 13 (f_gR c j) 4 - f_gI c 13 (f_gR c j) 3 ∧ ¬ f_gI c 13 (f_gR c j) 4 < x)) 0 N with | none => ((none : Option Nat), c) | some i => (some (f_gR c i), c)) := by
    refine q_srch0 (fun j => (x, nI j, c)) N _ _ (fun j => (some (f_gR c j), c)) (by omega) ?_ ?_
    · intro k
      simp only [b_be_over_2, h.cnt, Int32.le_refl, if_true]
    · intro k j hj
      simp only [b_be_over_2, F_co_isOver, F_co_rear, q_bd, h.cnt, q_ix (show j < 2147483648 by omega), q_gd (q_ib (show j < 16 by omega) (by decide)), q_gd' (h.rlt j (by omega)), q_n1]
      rw [if_neg (by rw [q_le (by omega) (by omega)]; omega)]
      by_cases a : x ≤ f_gI c 13 (f_gR c j) 4 - f_gI c 13 (f_gR c j) 3 <;> by_cases b : f_gI c 13 (f_gR c j) 4 < x <;> simp [a, b, q_bd, f_gd, h.rlt j (by omega)]
  have e2 : F_m_over x m = some (match q_first (fun j => decide (¬ x ≤ f_gI c 13 (f_gR c j) 4 - f_gI c 13 (f_gR c j) 3 ∧ ¬ f_gI c 13 (f_gR c j) 4 < x)) 0 N with | none => ((-1 : Int32), m) | some i => (nI i, m)) := by
    refine q_srch0 (fun j => (x, nI j, m)) N _ _ (fun j => (nI j, m)) (by omega) ?_ ?_
    · intro k
      simp only [b_m_over_2, h.siz, Int32.le_refl, if_true]
    · intro k j hj
      simp only [b_m_over_2, b_m_over_31, h.siz, m_g2 (show j < 60 by omega), m_rear (show j < 60 by omega), q_bd, ← (h.row j hj).fro, ← (h.row j hj).len, q_n1]
      rw [if_neg (by rw [q_le (by omega) (by omega)]; omega)]
      by_cases a : x ≤ f_gI c 13 (f_gR c j) 4 - f_gI c 13 (f_gR c j) 3 <;> by_cases b : f_gI c 13 (f_gR c j) 4 < x <;> simp [a, b, q_bd]
  cases q : q_first (fun j => decide (¬ x ≤ f_gI c 13 (f_gR c j) 4 - f_gI c 13 (f_gR c j) 3 ∧ ¬ f_gI c 13 (f_gR c j) 4 < x)) 0 N with
  | none =>
    rw [q] at e1 e2
    exact Or.inl ⟨e1, e2⟩
  | some i =>
    rw [q] at e1 e2
    exact Or.inr ⟨i, by have := q_first_some N 0 i q; omega, e1, e2⟩
theorem s_find {N : Nat} {c m : fST} (h : rBelt N c m) (x : Int32) : (F_be_withNumber x c = some (none, c) ∧ F_m_find x m = some (-1, m)) ∨ ∃ j, j < N ∧ F_be_withNumber x c = some (some (f_gR c j), c) ∧ F_m_find x m = some (nI j, m) := by
  have n13 := h.n13
  have e1 : F_be_withNumber x c = some (match q_first (fun j => decide (f_gI c 13 (f_gR c j) 2 = x)) 0 N with | none => ((none : Option Nat), c) | some i => (some (f_gR c i), c)) := by
    refine q_srch0 (fun j => (x, nI j, c)) N _ _ (fun j => (some (f_gR c j), c)) (by omega) ?_ ?_
    · intro k
      simp only [b_be_withNumber_2, h.cnt, Int32.le_refl, if_true]
    · intro k j hj
      simp only [b_be_withNumber_2, q_bd, h.cnt, q_ix (show j < 2147483648 by omega), q_gd (q_ib (show j < 16 by omega) (by decide)), q_gd' (h.rlt j (by omega)), q_n1]
      rw [if_neg (by rw [q_le (by omega) (by omega)]; omega)]
      by_cases a : f_gI c 13 (f_gR c j) 2 = x <;> simp [a]
  have e2 : F_m_find x m = some (match q_first (fun j => decide (f_gI c 13 (f_gR c j) 2 = x)) 0 N with | none => ((-1 : Int32), m) | some i => (nI i, m)) := by
    refine q_srch0 (fun j => (x, nI j, m)) N _ _ (fun j => (nI j, m)) (by omega) ?_ ?_
    · intro k
      simp only [b_m_find_2, h.siz, Int32.le_refl, if_true]
    · intro k j hj
      simp only [b_m_find_2, h.siz, m_g0 (show j < 60 by omega), q_bd, ← (h.row j hj).num, q_n1]
      rw [if_neg (by rw [q_le (by omega) (by omega)]; omega)]
      by_cases a : f_gI c 13 (f_gR c j) 2 = x <;> simp [a]
  cases q : q_first (fun j => decide (f_gI c 13 (f_gR c j) 2 = x)) 0 N with
  | none =>
    rw [q] at e1 e2
    exact Or.inl ⟨e1, e2⟩
  | some i =>
    rw [q] at e1 e2
    exact Or.inr ⟨i, by have := q_first_some N 0 i q; omega, e1, e2⟩
theorem s_place {V e : Nat} {c m : fST} (h : rVou V e c m) (x : Int32) : (F_vo_placeOf x c = some (-1, c) ∧ F_m_voucherAt x m = some (-1, m)) ∨ ∃ j, j < V ∧ F_vo_placeOf x c = some (nI j, c) ∧ F_m_voucherAt x m = some (nI j, m) := by
  have n60 := h.v60
  have e1 : F_vo_placeOf x c = some (match q_first (fun j => decide (f_gI c 20 0 j = x)) 0 V with | none => ((-1 : Int32), c) | some i => (nI i, c)) := by
    refine q_srch0 (fun j => (x, nI j, c)) V _ _ (fun j => (nI j, c)) (by omega) ?_ ?_
    · intro k
      simp only [b_vo_placeOf_2, h.cnt, Int32.le_refl, if_true]
    · intro k j hj
      simp only [b_vo_placeOf_2, q_bd, h.cnt, q_ix (show j < 2147483648 by omega), q_gd (q_ib (show j < 60 by omega) (by decide)), q_n1]
      rw [if_neg (by rw [q_le (by omega) (by omega)]; omega)]
      by_cases a : f_gI c 20 0 j = x <;> simp [a]
  have e2 : F_m_voucherAt x m = some (match q_first (fun j => decide (f_gI c 20 0 j = x)) 0 V with | none => ((-1 : Int32), m) | some i => (nI i, m)) := by
    refine q_srch0 (fun j => (x, nI j, m)) V _ _ (fun j => (nI j, m)) (by omega) ?_ ?_
    · intro k
      simp only [b_m_voucherAt_2, h.siz, Int32.le_refl, if_true]
    · intro k j hj
      simp only [b_m_voucherAt_2, h.siz, q_ix (show j < 2147483648 by omega), q_gd (q_ib (show j < 60 by omega) (by decide)), q_bd, ← h.num j hj, q_n1]
      rw [if_neg (by rw [q_le (by omega) (by omega)]; omega)]
      by_cases a : f_gI c 20 0 j = x <;> simp [a]
  cases q : q_first (fun j => decide (f_gI c 20 0 j = x)) 0 V with
  | none =>
    rw [q] at e1 e2
    exact Or.inl ⟨e1, e2⟩
  | some i =>
    rw [q] at e1 e2
    exact Or.inr ⟨i, by have := q_first_some V 0 i q; omega, e1, e2⟩
theorem s_kind {c m : fST} (h : rCat c m) (x : Int32) : (F_ca_kindWith x c = some (-1, c) ∧ F_m_kindOf x m = some (-1, m)) ∨ ∃ j, j < 40 ∧ F_ca_kindWith x c = some (nI j, c) ∧ F_m_kindOf x m = some (nI j, m) := by
  have e1 : F_ca_kindWith x c = some (match q_first (fun j => decide (f_gI c 2 0 j = x)) 0 40 with | none => ((-1 : Int32), c) | some i => (nI i, c)) := by
    refine q_srch0 (fun j => (x, nI j, c)) 40 _ _ (fun j => (nI j, c)) (by omega) ?_ ?_
    · intro k
      simp only [b_ca_kindWith_2, show (40 : Int32) ≤ nI 40 from Int32.le_refl _, if_true]
    · intro k j hj
      simp only [b_ca_kindWith_2, q_bd, q_ix (show j < 2147483648 by omega), q_gd (q_ib (show j < 40 by omega) (by decide)), q_n1]
      rw [if_neg (by rw [show (40 : Int32) = nI 40 from rfl, q_le (by omega) (by omega)]; omega)]
      by_cases a : f_gI c 2 0 j = x <;> simp [a]
  have e2 : F_m_kindOf x m = some (match q_first (fun j => decide (f_gI c 2 0 j = x)) 0 40 with | none => ((-1 : Int32), m) | some i => (nI i, m)) := by
    refine q_srch0 (fun j => (x, nI j, m)) 40 _ _ (fun j => (nI j, m)) (by omega) ?_ ?_
    · intro k
      simp only [b_m_kindOf_2, show (40 : Int32) ≤ nI 40 from Int32.le_refl _, if_true]
    · intro k j hj
      have e : (6 : Int32) * nI j = nI (6 * j) := by rw [show (6 : Int32) = nI 6 from rfl, q_nm]
      simp only [b_m_kindOf_2, e, q_ix (show 6 * j < 2147483648 by omega), q_gd (q_ib (show 6 * j < 240 by omega) (by decide)), q_bd, ← h.cod j hj, q_n1]
      rw [if_neg (by rw [show (40 : Int32) = nI 40 from rfl, q_le (by omega) (by omega)]; omega)]
      by_cases a : f_gI c 2 0 j = x <;> simp [a]
  cases q : q_first (fun j => decide (f_gI c 2 0 j = x)) 0 40 with
  | none =>
    rw [q] at e1 e2
    exact Or.inl ⟨e1, e2⟩
  | some i =>
    rw [q] at e1 e2
    exact Or.inr ⟨i, by have := q_first_some 40 0 i q; omega, e1, e2⟩
