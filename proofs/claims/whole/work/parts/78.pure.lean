set_option linter.unusedVariables false
set_option linter.unusedSimpArgs false
theorem o_check (a b : Int32) : qOk aB (F_l_check a b) (F_m_check a b) := by
  apply qOk.mk
  intro e K N c m he hK h
  rcases q_w01 a 0 99999999 with w | ⟨w, w1, w2⟩
  · refine qB_no h (t := 1) (by decide) ?_ ?_
    · simp only [F_l_check, F_b_check, q_bd, c_wi, w, c_rq0, q_br]; rfl
    · simp only [F_m_check, q_bd, m_wi, w, if_true, b_m_check_21, b_m_check_26, m_f1, one_ne, if_false]
  rcases q_w01 b 0 99999999 with v | ⟨v, v1, v2⟩
  · refine qB_no h (t := 1) (by decide) ?_ ?_
    · simp only [F_l_check, F_b_check, q_bd, c_wi, w, c_rq1, q_bl, v, c_rq0, q_br]; rfl
    · simp only [F_m_check, q_bd, m_wi, w, v, if_true, b_m_check_21, b_m_check_26, m_f1, one_ne, if_false]
  have w1 : 0 ≤ a.toInt := w1
  have w2 : a.toInt ≤ 99999999 := w2
  have v1 : 0 ≤ b.toInt := v1
  have v2 : b.toInt ≤ 99999999 := v2
  have aA := q_ex w1
  have A8 : a.toInt.toNat < 100000000 := by omega
  have bB := q_ex v1
  have B8 : b.toInt.toNat < 100000000 := by omega
  generalize a.toInt.toNat = A at aA A8
  generalize b.toInt.toNat = B at bB B8
  subst aA
  subst bB
  have hL : ((nI A).toInt64 * 100000000 + (nI B).toInt64) - ((nI A).toInt64 * 100000000 + (nI B).toInt64) / 97 * 97 = nL ((A * 100000000 + B) % 97) := by
    rw [L_c (by omega), L_c (by omega), show (100000000 : Int64) = nL 100000000 from rfl, show (97 : Int64) = nL 97 from rfl, L_m, L_a, L_r (by omega) (by omega)]
  have md : (A * 100000000 + B) % 97 < 97 := Nat.mod_lt _ (by decide)
  have cmp : lg_cmp (((nI A).toInt64 * 100000000 + (nI B).toInt64) - ((nI A).toInt64 * 100000000 + (nI B).toInt64) / 97 * 97) 1 = 0 ↔ (A * 100000000 + B) % 97 = 1 := by
    rw [hL]
    exact L_e (b := 1) (by omega) (by omega)
  clear hL
  have cl : F_b_check (nI A) (nI B) c = if ((nI B / 100) - (nI B / 100) / 100 * 100) = 37 then (if lg_cmp (((nI A).toInt64 * 100000000 + (nI B).toInt64) - ((nI A).toInt64 * 100000000 + (nI B).toInt64) / 97 * 97) 1 = 0 then (some (.inl 1, c)) else (some (.inl 0, c))) else (some (.inl 0, c)) := by
    unfold F_b_check
    rw [c_wi, q_bd, w, c_rq1, q_bl, c_wi, q_bd, v, c_rq1, q_bl]
  have r0 := s_rest8 A8 (r := 0) (by omega) (f_pI m 30 0 25 0)
  have r1 := s_rest8 B8 (r := (0 * 100000000 + A) % 97) (Nat.mod_lt _ (by decide)) (f_pI m 30 0 25 0)
  have rr : ((0 * 100000000 + A) % 97 * 100000000 + B) % 97 = (A * 100000000 + B) % 97 := by omega
  rw [rr] at r1
  have fin : ∀ v : Int32, (v = 0 ∨ v = 1) → F_b_check (nI A) (nI B) c = some (.inl v, c) → F_m_check (nI A) (nI B) m = some (v, f_pI m 30 0 25 0) → qG aB (F_l_check (nI A) (nI B)) (F_m_check (nI A) (nI B)) e K c m := by
    intro v v01 hc hm
    refine qB_yes (c' := c) (m' := f_pI m 30 0 25 0) (N' := N) (e' := e) (K' := K) (v := v) (x := if v = 0 then 0 else 1) ?_ hm ?_ (by (try simp (disch := omega) only [g_eq, g_ne, g_R, g_O, g_IR, g_IO, g_RO, g_OO, g_OR, g_RRe, g_RRn])) (by omega) (by omega) h.thr fC.rfl (fM.rfl.put (by decide))
    · simp only [F_l_check, hc, q_bl]
      rcases v01 with rfl | rfl <;> rfl
    · rcases v01 with rfl | rfl
      · exact Or.inl ⟨rfl, rfl⟩
      · exact Or.inr ⟨rfl, rfl⟩
  by_cases s37 : (nI B / 100) - (nI B / 100) / 100 * 100 = 37
  · by_cases one : (A * 100000000 + B) % 97 = 1
    · refine fin 1 (Or.inr rfl) ?_ ?_
      · rw [cl, if_pos s37, if_pos (cmp.mpr one)]
      · simp only [F_m_check, m_wi, w, v, q_bd, one_ne, if_false, b_m_check_26, m_f0, if_true, s37]
        have r0' : F_m_rest (nI A) 8 0 (f_pI m 30 0 25 0) = _ := r0
        rw [one] at r1
        rw [r0', q_bd, r1, q_bd, if_pos (show nI 1 = 1 from rfl)]
    · refine fin 0 (Or.inl rfl) ?_ ?_
      · rw [cl, if_pos s37, if_neg (fun x => one (cmp.mp x))]
      · simp only [F_m_check, m_wi, w, v, q_bd, one_ne, if_false, b_m_check_26, m_f0, if_true, s37]
        have : ¬ nI ((A * 100000000 + B) % 97) = 1 := by rw [show (1 : Int32) = nI 1 from rfl, q_eq (by omega) (by omega)]; exact one
        have r0' : F_m_rest (nI A) 8 0 (f_pI m 30 0 25 0) = _ := r0
        rw [r0', q_bd, r1, q_bd, if_neg this]
  · refine fin 0 (Or.inl rfl) ?_ ?_
    · rw [cl, if_neg s37]
    · simp only [F_m_check, m_wi, w, v, q_bd, one_ne, if_false, b_m_check_26, m_f0, if_true, s37]
