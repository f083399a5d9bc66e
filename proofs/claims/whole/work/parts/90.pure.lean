set_option linter.unusedVariables false
set_option linter.unusedSimpArgs false
/-! every script -/
theorem lg_self (x : Int64) : lg_cmp x x = 0 := by
  unfold lg_cmp
  rw [if_neg (by rw [gt_iff_lt, Int64.lt_iff_toInt_lt]; omega), if_pos rfl]
theorem stepI {Fl Fm : fST → Option (Int32 × fST)} (h : qOk aI Fl Fm) {e K N : Nat} {z : fST} (he : e + 1 ≤ 1000) (hK : K + 4800 ≤ 1000000000) (hr : rRel e K N z z) : ∃ z2 N', rRel (e + 1) (K + 4800) N' z2 z2 ∧ ∀ X : fST → Option (Int32 × fST), f_bd (Fl z) (fun v46 z46 => f_bd (Fm z46) (fun v54 z54 => f_bd (F_m_thrown z54) (fun v55 z55 => if v55 = v46 then (if v46 = 0 then (if (lg_cmp (f_gO z55) v54.toInt64) = 0 then X z55 else (some (0, z55))) else X z55) else (some (0, z55))))) = X z2 := by
  obtain ⟨t, z1, v, z2, N', h1, h2, ⟨h3, h4⟩, h5, h6⟩ := h.use he hK hr
  refine ⟨z2, N', h6, fun X => ?_⟩
  rw [h1, q_bd, h2, q_bd]
  unfold F_m_thrown
  rw [q_bd, if_pos h3]
  by_cases t0 : t = 0
  · rw [if_pos t0, h5, h4 t0, if_pos (lg_self _)]
  · rw [if_neg t0]
theorem stepB {Fl Fm : fST → Option (Int32 × fST)} (h : qOk aB Fl Fm) {e K N : Nat} {z : fST} (he : e + 1 ≤ 1000) (hK : K + 4800 ≤ 1000000000) (hr : rRel e K N z z) : ∃ z2 N', rRel (e + 1) (K + 4800) N' z2 z2 ∧ ∀ X : fST → Option (Int32 × fST), f_bd (Fl z) (fun v46 z46 => f_bd (Fm z46) (fun v54 z54 => f_bd (F_m_thrown z54) (fun v55 z55 => if v55 = v46 then (if v46 = 0 then (if v54 = 0 then (if (lg_cmp (f_gO z55) 0) = 0 then X z55 else (some (0, z55))) else (if (lg_cmp (f_gO z55) 1) = 0 then X z55 else (some (0, z55)))) else X z55) else (some (0, z55))))) = X z2 := by
  obtain ⟨t, z1, v, z2, N', h1, h2, ⟨h3, h4⟩, h5, h6⟩ := h.use he hK hr
  refine ⟨z2, N', h6, fun X => ?_⟩
  rw [h1, q_bd, h2, q_bd]
  unfold F_m_thrown
  rw [q_bd, if_pos h3]
  by_cases t0 : t = 0
  · rw [if_pos t0]
    rcases h4 t0 with ⟨a, b⟩ | ⟨a, b⟩
    · rw [if_pos a, h5, b, if_pos (lg_self _)]
    · rw [a, if_neg one_ne, h5, b, if_pos (lg_self _)]
  · rw [if_neg t0]
theorem stepU {Fl : fST → Option (Int32 × fST)} {Fm : fST → Option (Unit × fST)} (h : qOk aU Fl Fm) {e K N : Nat} {z : fST} (he : e + 1 ≤ 1000) (hK : K + 4800 ≤ 1000000000) (hr : rRel e K N z z) : ∃ z2 N', rRel (e + 1) (K + 4800) N' z2 z2 ∧ ∀ X : fST → Option (Int32 × fST), f_bd (Fl z) (fun v46 z46 => f_bd (Fm z46) (fun v54 z54 => f_bd (F_m_thrown z54) (fun v55 z55 => if v55 = v46 then X z55 else (some (0, z55))))) = X z2 := by
  obtain ⟨t, z1, v, z2, N', h1, h2, h3, h5, h6⟩ := h.use he hK hr
  refine ⟨z2, N', h6, fun X => ?_⟩
  rw [h1, q_bd, h2, q_bd]
  unfold F_m_thrown
  rw [q_bd, if_pos (show f_gI z2 30 0 25 = t from h3)]
theorem stepV {Fl Fm : fST → Option (Int32 × fST)} (h : qOk aV Fl Fm) {e K N : Nat} {z : fST} (he : e + 1 ≤ 1000) (hK : K + 4800 ≤ 1000000000) (hr : rRel e K N z z) : ∃ z2 N', rRel (e + 1) (K + 4800) N' z2 z2 ∧ ∀ X : fST → Option (Int32 × fST), f_bd (Fl z) (fun v46 z46 => f_bd (Fm z46) (fun v54 z54 => if v46 = v54 then X z54 else (some (0, z54)))) = X z2 := by
  obtain ⟨t, z1, v, z2, N', h1, h2, h3, h5, h6⟩ := h.use he hK hr
  refine ⟨z2, N', h6, fun X => ?_⟩
  rw [h1, q_bd, h2, q_bd, if_pos (show t = v from h3)]
/-- one call of the script -/
theorem q_step {xn : Nat} (hxn : xn ≤ 4096) (xs : Nat → Int32) {k e K N : Nat} {z : fST} (hk : 8 * k + 8 ≤ xn) (he : e + 1 ≤ 1000) (hK : K + 4800 ≤ 1000000000) (hr : rRel e K N z z) : ∃ z2 N', rRel (e + 1) (K + 4800) N' z2 z2 ∧ ∀ k23, b_l_law_23 xn xs k23 (nI (8 * k), z) = k23 (nI (8 * (k + 1)), z2) := by
  have nle : ¬ nI xn - 8 < nI (8 * k) := by
    rw [Int32.lt_iff_toInt_lt, q_sub, q_tn (by omega), q_tn (by omega), show (8 : Int32).toInt = 8 from rfl]
    · omega
    · rw [q_tn (by omega), show (8 : Int32).toInt = 8 from rfl]; omega
    · rw [q_tn (by omega), show (8 : Int32).toInt = 8 from rfl]; omega
  have ib (i : Nat) (hi : i < 8) : f_ib (nI (8 * k + i)) xn = true := q_ib (by omega) (by omega)
  have ad (i : Nat) : nI (8 * k) + nI i = nI (8 * k + i) := q_na _ _
  have a1 : nI (8 * k) + 1 = nI (8 * k + 1) := ad 1
  have a2 : nI (8 * k) + 2 = nI (8 * k + 2) := ad 2
  have a3 : nI (8 * k) + 3 = nI (8 * k + 3) := ad 3
  have a4 : nI (8 * k) + 4 = nI (8 * k + 4) := ad 4
  have a5 : nI (8 * k) + 5 = nI (8 * k + 5) := ad 5
  have a6 : nI (8 * k) + 6 = nI (8 * k + 6) := ad 6
  have a7 : nI (8 * k) + 7 = nI (8 * k + 7) := ad 7
  have a8 : nI (8 * k) + 8 = nI (8 * (k + 1)) := ad 8
  have b0 := ib 0 (by omega)
  have b1 := ib 1 (by omega)
  have b2 := ib 2 (by omega)
  have b3 := ib 3 (by omega)
  have b4 := ib 4 (by omega)
  have b5 := ib 5 (by omega)
  have b6 := ib 6 (by omega)
  have b7 := ib 7 (by omega)
  have same : ∃ z2 N', rRel (e + 1) (K + 4800) N' z2 z2 ∧ ∀ k23, b_l_law_1421 xn xs k23 (nI (8 * k)) z = k23 (nI (8 * (k + 1)), z2) :=
    ⟨z, N, hr.to (by omega) he (by omega) hK (by (intros; first | rfl | ((try simp (disch := omega) only [g_eq, g_ne, g_R, g_O, g_IR, g_IO, g_RO, g_OO, g_OR, g_RRe, g_RRn]); done) | fail)) (by (intros; first | rfl | ((try simp (disch := omega) only [g_eq, g_ne, g_R, g_O, g_IR, g_IO, g_RO, g_OO, g_OR, g_RRe, g_RRn]); done) | fail)) (by (intros; first | rfl | ((try simp (disch := omega) only [g_eq, g_ne, g_R, g_O, g_IR, g_IO, g_RO, g_OO, g_OR, g_RRe, g_RRn]); done) | fail)), fun k23 => by unfold b_l_law_1421; rw [a8]⟩
  simp only [b_l_law_23, if_neg nle, q_gd (show f_ib (nI (8 * k)) xn = true from b0)]
  generalize xs (f_ix (nI (8 * k))) &&& 31 = op
  by_cases o0 : op = 0
  · obtain ⟨z2, N', h1, h2⟩ := stepU (o_contour (xs (8 * k + 1)) (xs (8 * k + 2)) (xs (8 * k + 3)) (xs (8 * k + 4))) he hK hr
    refine ⟨z2, N', h1, fun k23 => ?_⟩
    rw [if_pos o0, ← a8]
    simp only [b_l_law_144, a1, a2, a3, a4, q_gd b1, q_gd b2, q_gd b3, q_gd b4, q_ix (show 8 * k + 1 < 2147483648 by omega), q_ix (show 8 * k + 2 < 2147483648 by omega), q_ix (show 8 * k + 3 < 2147483648 by omega), q_ix (show 8 * k + 4 < 2147483648 by omega)]
    exact h2 (fun z => b_l_law_1421 xn xs k23 (nI (8 * k)) z)
  by_cases o1 : op = 1
  · obtain ⟨z2, N', h1, h2⟩ := stepI (o_kind (xs (8 * k + 1)) (xs (8 * k + 2)) (xs (8 * k + 3)) (xs (8 * k + 4)) (xs (8 * k + 5)) (xs (8 * k + 6)) (xs (8 * k + 7))) he hK hr
    refine ⟨z2, N', h1, fun k23 => ?_⟩
    simp only [if_neg o0]
    rw [if_pos o1, ← a8]
    simp only [b_l_law_216, b_l_law_345, a1, a2, a3, a4, a5, a6, a7, q_gd b1, q_gd b2, q_gd b3, q_gd b4, q_gd b5, q_gd b6, q_gd b7, q_ix (show 8 * k + 1 < 2147483648 by omega), q_ix (show 8 * k + 2 < 2147483648 by omega), q_ix (show 8 * k + 3 < 2147483648 by omega), q_ix (show 8 * k + 4 < 2147483648 by omega), q_ix (show 8 * k + 5 < 2147483648 by omega), q_ix (show 8 * k + 6 < 2147483648 by omega), q_ix (show 8 * k + 7 < 2147483648 by omega)]
    exact h2 (fun z => b_l_law_1421 xn xs k23 (nI (8 * k)) z)
  by_cases o2 : op = 2
  · obtain ⟨z2, N', h1, h2⟩ := stepI (o_enter (xs (8 * k + 1))) he hK hr
    refine ⟨z2, N', h1, fun k23 => ?_⟩
    simp only [if_neg o0, if_neg o1]
    rw [if_pos o2, ← a8]
    simp only [b_l_law_348, b_l_law_401, a1, q_gd b1, q_ix (show 8 * k + 1 < 2147483648 by omega)]
    exact h2 (fun z => b_l_law_1421 xn xs k23 (nI (8 * k)) z)
  by_cases o3 : op = 3
  · obtain ⟨z2, N', h1, h2⟩ := stepB (o_code (xs (8 * k + 1))) he hK hr
    refine ⟨z2, N', h1, fun k23 => ?_⟩
    simp only [if_neg o0, if_neg o1, if_neg o2]
    rw [if_pos o3, ← a8]
    simp only [b_l_law_404, b_l_law_458, b_l_law_464, a1, q_gd b1, q_ix (show 8 * k + 1 < 2147483648 by omega)]
    exact h2 (fun z => b_l_law_1421 xn xs k23 (nI (8 * k)) z)
  by_cases o4 : op = 4
  · obtain ⟨z2, N', h1, h2⟩ := stepB (o_width (xs (8 * k + 1))) he hK hr
    refine ⟨z2, N', h1, fun k23 => ?_⟩
    simp only [if_neg o0, if_neg o1, if_neg o2, if_neg o3]
    rw [if_pos o4, ← a8]
    simp only [b_l_law_467, b_l_law_521, b_l_law_527, a1, q_gd b1, q_ix (show 8 * k + 1 < 2147483648 by omega)]
    exact h2 (fun z => b_l_law_1421 xn xs k23 (nI (8 * k)) z)
  by_cases o5 : op = 5
  · obtain ⟨z2, N', h1, h2⟩ := stepB (o_weigh (xs (8 * k + 1))) he hK hr
    refine ⟨z2, N', h1, fun k23 => ?_⟩
    simp only [if_neg o0, if_neg o1, if_neg o2, if_neg o3, if_neg o4]
    rw [if_pos o5, ← a8]
    simp only [b_l_law_530, b_l_law_584, b_l_law_590, a1, q_gd b1, q_ix (show 8 * k + 1 < 2147483648 by omega)]
    exact h2 (fun z => b_l_law_1421 xn xs k23 (nI (8 * k)) z)
  by_cases o6 : op = 6
  · obtain ⟨z2, N', h1, h2⟩ := stepI (o_forward (xs (8 * k + 1))) he hK hr
    refine ⟨z2, N', h1, fun k23 => ?_⟩
    simp only [if_neg o0, if_neg o1, if_neg o2, if_neg o3, if_neg o4, if_neg o5]
    rw [if_pos o6, ← a8]
    simp only [b_l_law_593, b_l_law_646, a1, q_gd b1, q_ix (show 8 * k + 1 < 2147483648 by omega)]
    exact h2 (fun z => b_l_law_1421 xn xs k23 (nI (8 * k)) z)
  by_cases o7 : op = 7
  · obtain ⟨z2, N', h1, h2⟩ := stepI (o_back (xs (8 * k + 1))) he hK hr
    refine ⟨z2, N', h1, fun k23 => ?_⟩
    simp only [if_neg o0, if_neg o1, if_neg o2, if_neg o3, if_neg o4, if_neg o5, if_neg o6]
    rw [if_pos o7, ← a8]
    simp only [b_l_law_649, b_l_law_702, a1, q_gd b1, q_ix (show 8 * k + 1 < 2147483648 by omega)]
    exact h2 (fun z => b_l_law_1421 xn xs k23 (nI (8 * k)) z)
  by_cases o8 : op = 8
  · obtain ⟨z2, N', h1, h2⟩ := stepI (o_voucher ) he hK hr
    refine ⟨z2, N', h1, fun k23 => ?_⟩
    simp only [if_neg o0, if_neg o1, if_neg o2, if_neg o3, if_neg o4, if_neg o5, if_neg o6, if_neg o7]
    rw [if_pos o8, ← a8]
    simp only [b_l_law_705, b_l_law_746]
    exact h2 (fun z => b_l_law_1421 xn xs k23 (nI (8 * k)) z)
  by_cases o9 : op = 9
  · obtain ⟨z2, N', h1, h2⟩ := stepI (o_give ) he hK hr
    refine ⟨z2, N', h1, fun k23 => ?_⟩
    simp only [if_neg o0, if_neg o1, if_neg o2, if_neg o3, if_neg o4, if_neg o5, if_neg o6, if_neg o7, if_neg o8]
    rw [if_pos o9, ← a8]
    simp only [b_l_law_749, b_l_law_790]
    exact h2 (fun z => b_l_law_1421 xn xs k23 (nI (8 * k)) z)
  by_cases o10 : op = 10
  · obtain ⟨z2, N', h1, h2⟩ := stepI (o_redeem (xs (8 * k + 1))) he hK hr
    refine ⟨z2, N', h1, fun k23 => ?_⟩
    simp only [if_neg o0, if_neg o1, if_neg o2, if_neg o3, if_neg o4, if_neg o5, if_neg o6, if_neg o7, if_neg o8, if_neg o9]
    rw [if_pos o10, ← a8]
    simp only [b_l_law_793, b_l_law_846, a1, q_gd b1, q_ix (show 8 * k + 1 < 2147483648 by omega)]
    exact h2 (fun z => b_l_law_1421 xn xs k23 (nI (8 * k)) z)
  by_cases o11 : op = 11
  · obtain ⟨z2, N', h1, h2⟩ := stepI (o_clear ) he hK hr
    refine ⟨z2, N', h1, fun k23 => ?_⟩
    simp only [if_neg o0, if_neg o1, if_neg o2, if_neg o3, if_neg o4, if_neg o5, if_neg o6, if_neg o7, if_neg o8, if_neg o9, if_neg o10]
    rw [if_pos o11, ← a8]
    simp only [b_l_law_849, b_l_law_890]
    exact h2 (fun z => b_l_law_1421 xn xs k23 (nI (8 * k)) z)
  by_cases o12 : op = 12
  · obtain ⟨z2, N', h1, h2⟩ := stepI (o_empty (xs (8 * k + 1)) (xs (8 * k + 2))) he hK hr
    refine ⟨z2, N', h1, fun k23 => ?_⟩
    simp only [if_neg o0, if_neg o1, if_neg o2, if_neg o3, if_neg o4, if_neg o5, if_neg o6, if_neg o7, if_neg o8, if_neg o9, if_neg o10, if_neg o11]
    rw [if_pos o12, ← a8]
    simp only [b_l_law_893, b_l_law_958, a1, a2, q_gd b1, q_gd b2, q_ix (show 8 * k + 1 < 2147483648 by omega), q_ix (show 8 * k + 2 < 2147483648 by omega)]
    exact h2 (fun z => b_l_law_1421 xn xs k23 (nI (8 * k)) z)
  by_cases o13 : op = 13
  · obtain ⟨z2, N', h1, h2⟩ := stepB (o_service ) he hK hr
    refine ⟨z2, N', h1, fun k23 => ?_⟩
    simp only [if_neg o0, if_neg o1, if_neg o2, if_neg o3, if_neg o4, if_neg o5, if_neg o6, if_neg o7, if_neg o8, if_neg o9, if_neg o10, if_neg o11, if_neg o12]
    rw [if_pos o13, ← a8]
    simp only [b_l_law_961, b_l_law_1003, b_l_law_1009]
    exact h2 (fun z => b_l_law_1421 xn xs k23 (nI (8 * k)) z)
  by_cases o14 : op = 14
  · obtain ⟨z2, N', h1, h2⟩ := stepU (o_cut (xs (8 * k + 1))) he hK hr
    refine ⟨z2, N', h1, fun k23 => ?_⟩
    simp only [if_neg o0, if_neg o1, if_neg o2, if_neg o3, if_neg o4, if_neg o5, if_neg o6, if_neg o7, if_neg o8, if_neg o9, if_neg o10, if_neg o11, if_neg o12, if_neg o13]
    rw [if_pos o14, ← a8]
    simp only [b_l_law_1012, a1, q_gd b1, q_ix (show 8 * k + 1 < 2147483648 by omega)]
    exact h2 (fun z => b_l_law_1421 xn xs k23 (nI (8 * k)) z)
  by_cases o15 : op = 15
  · obtain ⟨z2, N', h1, h2⟩ := stepV (o_power ) he hK hr
    refine ⟨z2, N', h1, fun k23 => ?_⟩
    simp only [if_neg o0, if_neg o1, if_neg o2, if_neg o3, if_neg o4, if_neg o5, if_neg o6, if_neg o7, if_neg o8, if_neg o9, if_neg o10, if_neg o11, if_neg o12, if_neg o13, if_neg o14]
    rw [if_pos o15, ← a8]
    simp only [b_l_law_1048]
    exact h2 (fun z => b_l_law_1421 xn xs k23 (nI (8 * k)) z)
  by_cases o16 : op = 16
  · obtain ⟨z2, N', h1, h2⟩ := stepB (o_check (xs (8 * k + 1)) (xs (8 * k + 2))) he hK hr
    refine ⟨z2, N', h1, fun k23 => ?_⟩
    simp only [if_neg o0, if_neg o1, if_neg o2, if_neg o3, if_neg o4, if_neg o5, if_neg o6, if_neg o7, if_neg o8, if_neg o9, if_neg o10, if_neg o11, if_neg o12, if_neg o13, if_neg o14, if_neg o15]
    rw [if_pos o16, ← a8]
    simp only [b_l_law_1061, b_l_law_1127, b_l_law_1133, a1, a2, q_gd b1, q_gd b2, q_ix (show 8 * k + 1 < 2147483648 by omega), q_ix (show 8 * k + 2 < 2147483648 by omega)]
    exact h2 (fun z => b_l_law_1421 xn xs k23 (nI (8 * k)) z)
  by_cases o17 : op = 17
  · obtain ⟨z2, N', h1, h2⟩ := stepI (o_about (xs (8 * k + 1)) (xs (8 * k + 2))) he hK hr
    refine ⟨z2, N', h1, fun k23 => ?_⟩
    simp only [if_neg o0, if_neg o1, if_neg o2, if_neg o3, if_neg o4, if_neg o5, if_neg o6, if_neg o7, if_neg o8, if_neg o9, if_neg o10, if_neg o11, if_neg o12, if_neg o13, if_neg o14, if_neg o15, if_neg o16]
    rw [if_pos o17, ← a8]
    simp only [b_l_law_1136, b_l_law_1201, a1, a2, q_gd b1, q_gd b2, q_ix (show 8 * k + 1 < 2147483648 by omega), q_ix (show 8 * k + 2 < 2147483648 by omega)]
    exact h2 (fun z => b_l_law_1421 xn xs k23 (nI (8 * k)) z)
  by_cases o18 : op = 18
  · obtain ⟨z2, N', h1, h2⟩ := stepI (o_container (xs (8 * k + 1)) (xs (8 * k + 2))) he hK hr
    refine ⟨z2, N', h1, fun k23 => ?_⟩
    simp only [if_neg o0, if_neg o1, if_neg o2, if_neg o3, if_neg o4, if_neg o5, if_neg o6, if_neg o7, if_neg o8, if_neg o9, if_neg o10, if_neg o11, if_neg o12, if_neg o13, if_neg o14, if_neg o15, if_neg o16, if_neg o17]
    rw [if_pos o18, ← a8]
    simp only [b_l_law_1204, b_l_law_1269, a1, a2, q_gd b1, q_gd b2, q_ix (show 8 * k + 1 < 2147483648 by omega), q_ix (show 8 * k + 2 < 2147483648 by omega)]
    exact h2 (fun z => b_l_law_1421 xn xs k23 (nI (8 * k)) z)
  by_cases o19 : op = 19
  · obtain ⟨z2, N', h1, h2⟩ := stepV (o_belt (xs (8 * k + 1))) he hK hr
    refine ⟨z2, N', h1, fun k23 => ?_⟩
    simp only [if_neg o0, if_neg o1, if_neg o2, if_neg o3, if_neg o4, if_neg o5, if_neg o6, if_neg o7, if_neg o8, if_neg o9, if_neg o10, if_neg o11, if_neg o12, if_neg o13, if_neg o14, if_neg o15, if_neg o16, if_neg o17, if_neg o18]
    rw [if_pos o19, ← a8]
    simp only [b_l_law_1272, a1, q_gd b1, q_ix (show 8 * k + 1 < 2147483648 by omega)]
    exact h2 (fun z => b_l_law_1421 xn xs k23 (nI (8 * k)) z)
  by_cases o20 : op = 20
  · obtain ⟨z2, N', h1, h2⟩ := stepI (o_bin (xs (8 * k + 1)) (xs (8 * k + 2))) he hK hr
    refine ⟨z2, N', h1, fun k23 => ?_⟩
    simp only [if_neg o0, if_neg o1, if_neg o2, if_neg o3, if_neg o4, if_neg o5, if_neg o6, if_neg o7, if_neg o8, if_neg o9, if_neg o10, if_neg o11, if_neg o12, if_neg o13, if_neg o14, if_neg o15, if_neg o16, if_neg o17, if_neg o18, if_neg o19]
    rw [if_pos o20, ← a8]
    simp only [b_l_law_1297, b_l_law_1362, a1, a2, q_gd b1, q_gd b2, q_ix (show 8 * k + 1 < 2147483648 by omega), q_ix (show 8 * k + 2 < 2147483648 by omega)]
    exact h2 (fun z => b_l_law_1421 xn xs k23 (nI (8 * k)) z)
  by_cases o21 : op = 21
  · obtain ⟨z2, N', h1, h2⟩ := stepI (o_total (xs (8 * k + 1))) he hK hr
    refine ⟨z2, N', h1, fun k23 => ?_⟩
    simp only [if_neg o0, if_neg o1, if_neg o2, if_neg o3, if_neg o4, if_neg o5, if_neg o6, if_neg o7, if_neg o8, if_neg o9, if_neg o10, if_neg o11, if_neg o12, if_neg o13, if_neg o14, if_neg o15, if_neg o16, if_neg o17, if_neg o18, if_neg o19, if_neg o20]
    rw [if_pos o21, ← a8]
    simp only [b_l_law_1365, b_l_law_1418, a1, q_gd b1, q_ix (show 8 * k + 1 < 2147483648 by omega)]
    exact h2 (fun z => b_l_law_1421 xn xs k23 (nI (8 * k)) z)
  simp only [if_neg o0, if_neg o1, if_neg o2, if_neg o3, if_neg o4, if_neg o5, if_neg o6, if_neg o7, if_neg o8, if_neg o9, if_neg o10, if_neg o11, if_neg o12, if_neg o13, if_neg o14, if_neg o15, if_neg o16, if_neg o17, if_neg o18, if_neg o19, if_neg o20, if_neg o21]
  exact same
/-- every script of at most 4096 ints, from a start that keeps the relation, comes to its end with 1 -/
theorem q_law {xn : Nat} (hxn : xn ≤ 4096) (xs : Nat → Int32) : ∀ d k N z, k + d = 512 → rRel k (4800 * k) N z z → ∃ z', f_it (b_l_law_23 xn xs) (d + 1) (nI (8 * k), z) = some (1, z') := by
  intro d
  induction d with
  | zero =>
    intro k N z hk hr
    refine ⟨z, ?_⟩
    show b_l_law_23 xn xs _ _ = _
    simp only [b_l_law_23]
    rw [if_pos]
    rw [Int32.lt_iff_toInt_lt, q_sub, q_tn (by omega), q_tn (by omega), show (8 : Int32).toInt = 8 from rfl]
    · omega
    · rw [q_tn (by omega), show (8 : Int32).toInt = 8 from rfl]; omega
    · rw [q_tn (by omega), show (8 : Int32).toInt = 8 from rfl]; omega
  | succ d ih =>
    intro k N z hk hr
    by_cases fit : 8 * k + 8 ≤ xn
    · obtain ⟨z2, N', h1, h2⟩ := q_step hxn xs fit (by omega) (by omega) hr
      obtain ⟨z', h3⟩ := ih (k + 1) N' z2 (by omega) (by rw [show 4800 * (k + 1) = 4800 * k + 4800 by omega]; exact h1)
      refine ⟨z', ?_⟩
      show b_l_law_23 xn xs (f_it (b_l_law_23 xn xs) (d + 1)) _ = _
      rw [h2]; exact h3
    · refine ⟨z, ?_⟩
      show b_l_law_23 xn xs _ _ = _
      simp only [b_l_law_23]
      rw [if_pos]
      rw [Int32.lt_iff_toInt_lt, q_sub, q_tn (by omega), q_tn (by omega), show (8 : Int32).toInt = 8 from rfl]
      · omega
      · rw [q_tn (by omega), show (8 : Int32).toInt = 8 from rfl]; omega
      · rw [q_tn (by omega), show (8 : Int32).toInt = 8 from rfl]; omega
