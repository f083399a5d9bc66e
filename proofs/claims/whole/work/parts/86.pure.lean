set_option linter.unusedVariables false
set_option linter.unusedSimpArgs false
theorem s_forward {e A : Nat} (hA : A ≤ 300) : ∀ d x N K c m n1 n2, x + d = A → d < n1 → d < n2 → K + 16 * d ≤ 1000000000 → rRel e K N c m → ∃ v c' m' N', f_it b_b_forward_17 n1 (nI A, nI x, c) = some (.inl v, c') ∧ f_it b_m_forward_40 n2 (nI A, nI x, m) = some (v, m') ∧ rRel e (K + 16 * d) N' c' m' ∧ fC c c' ∧ fM m m' ∧ f_gI m' 30 0 25 = f_gI m 30 0 25 := by
  intro d
  induction d with
  | zero =>
    intro x N K c m n1 n2 hx h1 h2 hK h
    obtain ⟨n1, rfl⟩ : ∃ q, n1 = q + 1 := ⟨n1 - 1, by omega⟩
    obtain ⟨n2, rfl⟩ : ∃ q, n2 = q + 1 := ⟨n2 - 1, by omega⟩
    obtain rfl : x = A := by omega
    refine ⟨nI x, c, m, N, ?_, ?_, h, fC.rfl, fM.rfl, rfl⟩
    · show b_b_forward_17 _ _ = _
      simp only [b_b_forward_17, Int32.le_refl, if_true]
    · show b_m_forward_40 _ _ = _
      simp only [b_m_forward_40, Int32.le_refl, if_true]
  | succ d ih =>
    intro x N K c m n1 n2 hx h1 h2 hK h
    obtain ⟨n1, rfl⟩ : ∃ q, n1 = q + 1 := ⟨n1 - 1, by omega⟩
    obtain ⟨n2, rfl⟩ : ∃ q, n2 = q + 1 := ⟨n2 - 1, by omega⟩
    have n13 := h.all.belt.n13
    have up : ∀ {K K' N c m}, K ≤ K' → K' ≤ 1000000000 → rRel e K N c m → rRel e K' N c m := fun a b x => x.to (Nat.le_refl _) x.all.e5 a b (by (intros; first | rfl | ((try simp (disch := omega) only [g_eq, g_ne, g_R, g_O, g_IR, g_IO, g_RO, g_OO, g_OR, g_RRe, g_RRn]); done) | fail)) (by (intros; first | rfl | ((try simp (disch := omega) only [g_eq, g_ne, g_R, g_O, g_IR, g_IO, g_RO, g_OO, g_OR, g_RRe, g_RRn]); done) | fail)) (by (intros; first | rfl | ((try simp (disch := omega) only [g_eq, g_ne, g_R, g_O, g_IR, g_IO, g_RO, g_OO, g_OR, g_RRe, g_RRn]); done) | fail))
    have nle : ¬ nI A ≤ nI x := by rw [q_le (by omega) (by omega)]; omega
    rcases h.all.jou.on with ⟨q1, q2⟩ | ⟨q1, q2⟩
    · obtain ⟨bv, b1, b2, b3⟩ := s_blocked h.all.belt
      rcases b3 with ⟨rfl, nb⟩ | rfl
      · obtain ⟨s, u0, u1, u2, u3, u4⟩ := c_moveUp h.all.belt
        obtain ⟨r, w0, w1, w2, w3⟩ := m_moveUp n13 h.all.belt.siz (f_it b_m_forward_40 n2) (nI A) (nI x)
        obtain ⟨hA', hmid⟩ := s_moved h q1 nb u1 u2 u3 w1 w2
        obtain ⟨c1, m1, N1, i1, i2, i3, i4, i5, i6⟩ := s_arrive (e := e) N 0 N K s r 2000 2000 (by omega) (by omega) (by omega) (by omega) hA' hmid
        obtain ⟨v, c2, m2, N2, j1, j2, j3, j4, j5, j6⟩ := ih (x + 1) N1 (K + 16) c1 m1 n1 n2 (by omega) (by omega) (by omega) (by omega) (up (by omega) (by omega) i3)
        refine ⟨v, c2, m2, N2, ?_, ?_, by rw [show K + 16 * (d + 1) = K + 16 + 16 * d by omega]; exact j3, (u4.trans i4).trans j4, (w3.trans i5).trans j5, ?_⟩
        · show b_b_forward_17 _ _ = _
          have e11 : f_gI s 11 0 1 = nI N := by rw [u2 _ _ _ (by omega)]; exact h.all.belt.cnt
          simp only [b_b_forward_17, nle, if_false, q1, one_ne, b1, q_bd, if_true, F_b_stepForward, u0, e11]
          rw [show f_it b_b_stepForward_17 2000 (0, nI N, s) = _ from i1, q_bd, q_n1]
          exact j1
        · show b_m_forward_40 _ _ = _
          simp only [b_m_forward_40, nle, if_false, q2, if_true, b2, q_bd]
          rw [w0, show f_it (b_m_forward_94 (f_it b_m_forward_40 n2)) 2000 (nI A, nI x + 1, 0, r) = _ from i2 (f_it b_m_forward_40 n2) (nI A) (nI x + 1), q_n1]
          exact j2
        · rw [j6, i6, w2 _ _ _ (by omega)]
      · refine ⟨nI x, c, m, N, ?_, ?_, up (by omega) hK h, fC.rfl, fM.rfl, rfl⟩
        · show b_b_forward_17 _ _ = _
          simp only [b_b_forward_17, nle, if_false, q1, one_ne, b1, q_bd]
        · show b_m_forward_40 _ _ = _
          simp only [b_m_forward_40, nle, if_false, q2, if_true, b2, q_bd, one_ne]
    · refine ⟨nI x, c, m, N, ?_, ?_, up (by omega) hK h, fC.rfl, fM.rfl, rfl⟩
      · show b_b_forward_17 _ _ = _
        simp only [b_b_forward_17, nle, if_false, q1, if_true]
      · show b_m_forward_40 _ _ = _
        simp only [b_m_forward_40, nle, if_false, q2, one_ne]
theorem o_forward (a : Int32) : qOk aI (F_l_forward a) (F_m_forward a) := by
  apply qOk.mk
  intro e K N c m he hK h
  rcases h.all.jou.on with ⟨q1, q2⟩ | ⟨q1, q2⟩
  · rcases q_w01 a 0 300 with w | ⟨w, w1, w2⟩
    · refine qI_no h (t := 2) (by decide) ?_ ?_
      · simp only [F_l_forward, F_b_forward, c_on q1, q_bl, c_wi, q_bd, w, c_rq0, q_br]; rfl
      · simp only [F_m_forward, q2, m_f0, q_bd, m_wi, w, if_true, b_m_forward_29, m_f1, one_ne, if_false, g_pp]
    have w1 : 0 ≤ a.toInt := w1
    have w2 : a.toInt ≤ 300 := w2
    have aA := q_ex w1
    have A3 : a.toInt.toNat ≤ 300 := by omega
    generalize a.toInt.toNat = A at aA A3
    subst aA
    have ht := h.thr (v := 0)
    obtain ⟨v, c', m', N', j1, j2, j3, j4, j5, j6⟩ := s_forward A3 A 0 N K c (f_pI m 30 0 25 0) 2000 2000 (by omega) (by omega) (by omega) (by omega) ht
    refine qI_yes (c' := c') (m' := m') (N' := N') (e' := e) (K' := K + 16 * A) (v := v) (x := v.toInt64) ?_ ?_ rfl ?_ (by omega) (by omega) j3 j4 ((fM.rfl.put (by decide)).trans j5)
    · simp only [F_l_forward, F_b_forward, c_on q1, q_bl, c_wi, q_bd, w, c_rq1]
      rw [show f_it b_b_forward_17 2000 (nI A, 0, c) = _ from j1]; rfl
    · simp only [F_m_forward, q2, m_f0, q_bd, m_wi, w, if_true, b_m_forward_29, one_ne, if_false, g_pp]
      exact j2
    · rw [j6]; (try simp (disch := omega) only [g_eq, g_ne, g_R, g_O, g_IR, g_IO, g_RO, g_OO, g_OR, g_RRe, g_RRn])
  · refine qI_no h (t := 1) (by decide) ?_ ?_
    · simp only [F_l_forward, F_b_forward, c_off q1, q_br]; rfl
    · simp only [F_m_forward, q2, m_f1, q_bd, one_ne, if_false]
