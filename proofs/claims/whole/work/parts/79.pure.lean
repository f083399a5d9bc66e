set_option linter.unusedVariables false
set_option linter.unusedSimpArgs false
theorem o_about (a b : Int32) : qOk aI (F_l_about a b) (F_m_about a b) := by
  apply qOk.mk
  intro e K N c m he hK h
  obtain ⟨V, vou⟩ := h.all.vou
  have v60 := vou.v60
  have hV : (nI V).toInt - 1 = (nI V - 1).toInt := by
    rw [q_sub, l1] <;> rw [l1, q_tn (by omega)] <;> omega
  rcases s_place vou a with ⟨p1, p2⟩ | ⟨j, jV, p1, p2⟩
  · refine qI_no h (t := 1) (by decide) ?_ ?_
    · simp only [F_l_about, F_b_about, p1, q_bd, vou.cnt, c_ii hV]
      rw [show q_w (-1) 0 (nI V - 1) = 0 from rfl]
      rfl
    · simp only [F_m_about, p2, q_bd, if_true, b_m_about_21, b_m_about_26, m_f1, one_ne, if_false]
  have jm : ¬ nI j = -1 := by rw [← Int32.toInt_inj, q_tn (by omega), show (-1 : Int32).toInt = -1 from rfl]; omega
  have w : q_w (nI j) 0 (nI V - 1) = 1 := q_w1 (by rw [q_tn (by omega), l0]; omega) (by rw [← hV, q_tn (by omega), q_tn (by omega)]; omega)
  have ib : f_ib (nI j) 60 = true := q_ib (by omega) (by decide)
  have ix : f_ix (nI j) = j := q_ix (by omega)
  have fin : ∀ x : Int32, q_w b 0 3 = 1 → F_b_about a b c = some (.inl x, c) → b_m_about_26 b (nI j) 0 m = some (x, f_pI m 30 0 25 0) → qG aI (F_l_about a b) (F_m_about a b) e K c m := by
    intro x hw hc hm
    refine qI_yes (c' := c) (m' := f_pI m 30 0 25 0) (N' := N) (e' := e) (K' := K) (v := x) (x := x.toInt64) ?_ ?_ rfl (by (try simp (disch := omega) only [g_eq, g_ne, g_R, g_O, g_IR, g_IO, g_RO, g_OO, g_OR, g_RRe, g_RRn])) (by omega) (by omega) h.thr fC.rfl (fM.rfl.put (by decide))
    · simp only [F_l_about, hc, q_bl]
    · simp only [F_m_about, p2, q_bd, jm, if_false, m_wi, hw, one_ne, hm]
  rcases q_w01 b 0 3 with w3 | ⟨w3, u1, u2⟩
  · have nb (k : Nat) (hk : k < 4) : ¬ b = nI k := by
      rintro rfl
      rw [q_w1] at w3
      · cases w3
      · rw [l0, q_tn (by omega)]; omega
      · rw [q_tn (by omega), show (3 : Int32).toInt = 3 from rfl]; omega
    refine qI_no h (t := 1) (by decide) ?_ ?_
    · simp only [F_l_about, F_b_about, p1, q_bd, vou.cnt, c_ii hV, w, c_rq1, q_bl, show ¬ b = 0 from nb 0 (by decide), show ¬ b = 1 from nb 1 (by decide), show ¬ b = 2 from nb 2 (by decide), show ¬ b = 3 from nb 3 (by decide), if_false, q_br]; rfl
    · simp only [F_m_about, p2, q_bd, jm, if_false, m_wi, w3, if_true, b_m_about_21, b_m_about_26, m_f1, one_ne]
  have hs := vou.nok j jV
  have hu := vou.sok j jV
  have sS := q_ex hs.1
  have uU := q_ex hu.1
  have S6 : (f_gI c 20 0 j).toInt.toNat < 1000000 := by omega
  have U6 : (f_gI c 21 0 j).toInt.toNat < 1000000 := by omega
  generalize (f_gI c 20 0 j).toInt.toNat = S at sS S6
  generalize (f_gI c 21 0 j).toInt.toNat = U at uU U6
  have mS : f_gI (f_pI m 30 0 25 0) 37 0 j = nI S := by (try simp (disch := omega) only [g_eq, g_ne, g_R, g_O, g_IR, g_IO, g_RO, g_OO, g_OR, g_RRe, g_RRn]); rw [← vou.num j jV]; exact sS
  have mU : f_gI (f_pI m 30 0 25 0) 38 0 j = nI U := by (try simp (disch := omega) only [g_eq, g_ne, g_R, g_O, g_IR, g_IO, g_RO, g_OO, g_OR, g_RRe, g_RRn]); rw [← vou.sum j jV]; exact uU
  have u1 : 0 ≤ b.toInt := u1
  have u2 : b.toInt ≤ 3 := u2
  have first : nI S * 100 + nI U / 10000 = nI (S * 100 + U / 10000) := by
    rw [show (100 : Int32) = nI 100 from rfl, show (10000 : Int32) = nI 10000 from rfl, q_nm, q_nd (by omega) (by omega), q_na]
  have hb : b = 0 ∨ b = 1 ∨ b = 2 ∨ b = 3 := by
    simp only [← Int32.toInt_inj, l0, l1, show (2 : Int32).toInt = 2 from rfl, show (3 : Int32).toInt = 3 from rfl]; omega
  have cl : F_b_about a b c = (if b = 0 then (f_gd (f_ib (nI j) 60) (some (.inl (f_gI c 21 0 (f_ix (nI j))), c))) else (if b = 1 then (f_bd (F_vo_firstDigits (nI j) c) (fun v9 z9 => some (.inl v9, z9))) else (if b = 2 then (f_bd (F_vo_lastDigits (nI j) c) (fun v11 z11 => some (.inl v11, z11))) else (if b = 3 then (f_gd (f_ib (nI j) 60) (f_bd (F_b_asNumber (f_gI c 22 0 (f_ix (nI j))) c) (fun v14 z14 => some (.inl v14, z14)))) else (some (.inr 2, c)))))) := by
    simp only [F_b_about, p1, q_bd, vou.cnt, c_ii hV, w, c_rq1, q_bl]
  have fd : F_vo_firstDigits (nI j) c = some (nI (S * 100 + U / 10000), c) := by
    simp only [F_vo_firstDigits, q_gd ib, ix, sS, uU, first]
  rcases hb with rfl | rfl | rfl | rfl
  · refine fin (nI U) w3 ?_ ?_
    · rw [cl, if_pos rfl, q_gd ib, ix, uU]
    · simp only [b_m_about_26, m_f0, q_bd, if_true, q_gd ib, ix, mU]
  · refine fin (nI (S * 100 + U / 10000)) w3 ?_ ?_
    · rw [cl, if_neg (by decide), if_pos rfl, fd, q_bd]
    · simp only [b_m_about_26, m_f0, q_bd, if_true, q_gd ib, ix, mU, mS]
      rw [if_neg (by decide), Int32.mul_comm, first]
  · have ud : U / 10000 < 100 := by omega
    have um : U % 10000 < 10000 := Nat.mod_lt _ (by decide)
    have last : (nI U - nI U / 10000 * 10000) * 10000 + 3700 = nI (U % 10000 * 10000 + 3700) := by
      rw [show (10000 : Int32) = nI 10000 from rfl, show (3700 : Int32) = nI 3700 from rfl, q_nr (by omega) (by omega), q_nm, q_na]
    have r97 : ((S * 100 + U / 10000) * 100000000 + (U % 10000 * 10000 + 3700)) % 97 < 97 := Nat.mod_lt _ (by decide)
    refine fin (nI (U % 10000 * 10000 + 3700 + 97 + 1 - ((S * 100 + U / 10000) * 100000000 + (U % 10000 * 10000 + 3700)) % 97)) w3 ?_ ?_
    · rw [cl, if_neg (by decide), if_neg (by decide), if_pos rfl]
      simp only [F_vo_lastDigits, q_gd ib, fd, q_bd, ix, uU, last]
      rw [L_c (by omega), L_c (by omega), show (100000000 : Int64) = nL 100000000 from rfl, show (97 : Int64) = nL 97 from rfl, L_m, L_a, L_r (by omega) (by omega), L_i (by omega), show (97 : Int32) = nI 97 from rfl, q_na, q_n1, q_ns (by omega)]
    · have e1 := s_rest6 S6 (r := 0) (by omega) (f_pI m 30 0 25 0)
      have e2 := s_rest6 U6 (r := (0 * 1000000 + S) % 97) (Nat.mod_lt _ (by decide)) (f_pI m 30 0 25 0)
      have e3 := s_rest4 (x := 3700) (by omega) (r := ((0 * 1000000 + S) % 97 * 1000000 + U) % 97) (Nat.mod_lt _ (by decide)) (f_pI m 30 0 25 0)
      have rr : (((0 * 1000000 + S) % 97 * 1000000 + U) % 97 * 10000 + 3700) % 97 = ((S * 100 + U / 10000) * 100000000 + (U % 10000 * 10000 + 3700)) % 97 := by omega
      rw [rr] at e3
      have e1' : F_m_rest (nI S) 6 0 (f_pI m 30 0 25 0) = _ := e1
      have e3' : F_m_rest 3700 4 (nI (((0 * 1000000 + S) % 97 * 1000000 + U) % 97)) (f_pI m 30 0 25 0) = _ := e3
      simp only [b_m_about_26, m_f0, q_bd, if_true, q_gd ib, ix, mU, F_m_endOf, mS, e1', e2, e3', last]
      rw [if_neg (by decide), if_neg (by decide), show (98 : Int32) = nI 98 from rfl, q_ns (by omega), q_na]
      congr 3
      omega
  · have mr : f_gI (f_pI m 30 0 25 0) 39 0 j = f_gI c 22 0 j := by (try simp (disch := omega) only [g_eq, g_ne, g_R, g_O, g_IR, g_IO, g_RO, g_OO, g_OR, g_RRe, g_RRn]); rw [← vou.red j jV]
    refine fin (f_gI c 22 0 j) w3 ?_ ?_
    · rw [cl, if_neg (by decide), if_neg (by decide), if_neg (by decide), if_pos rfl, q_gd ib, ix]
      rcases vou.rok j jV with x | x <;> rw [x] <;> rfl
    · simp only [b_m_about_26, m_f0, q_bd, if_true, q_gd ib, ix, mr]
      rw [if_neg (by decide), if_neg (by decide), if_neg (by decide)]
      rcases vou.rok j jV with x | x <;> rw [x] <;> rfl
