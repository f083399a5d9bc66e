set_option linter.unusedVariables false
set_option linter.unusedSimpArgs false
theorem s_down {e K : Nat} : ∀ i N c m fl n1 n2, i ≤ N → i < n1 → i < n2 → rRel e K N c m → f_gI c 23 0 2 = 1 → (fl = (0 : Int32) ∨ fl = 1) → (∀ j, j + 1 = i → i < N → (f_gI c 13 (f_gR c j) 4).toInt < 105 → (f_gI c 13 (f_gR c i) 4).toInt + 5 ≤ (f_gI c 13 (f_gR c j) 4).toInt - (f_gI c 13 (f_gR c j) 3).toInt) → ∃ c' m' N' r fl', (fl' = (0 : Int32) ∨ fl' = 1) ∧ f_it b_be_moveDown_9 n1 (fl, nI i + (-1), c) = some (fl', c') ∧ (∀ k42 x1 x2 x3, f_it (b_m_back_58 k42) n2 (x1, x2, x3, fl, nI i + (-1), m) = k42 (x1, x2 + nI r, x3 + 1, f_pI m' 30 0 16 (f_gI m' 30 0 16 + fl'))) ∧ rRel e K N' c' m' ∧ f_gI c' 23 0 2 = 1 ∧ N' + r = N ∧ fC c c' ∧ fM m m' ∧ f_gI m' 30 0 25 = f_gI m 30 0 25 := by
  intro i
  induction i with
  | zero =>
    intro N c m fl n1 n2 hi h1 h2 h hon hf hg
    obtain ⟨n1, rfl⟩ : ∃ q, n1 = q + 1 := ⟨n1 - 1, by omega⟩
    obtain ⟨n2, rfl⟩ : ∃ q, n2 = q + 1 := ⟨n2 - 1, by omega⟩
    have neg : nI 0 + (-1) < 0 := by decide
    refine ⟨c, m, N, 0, fl, hf, ?_, ?_, h, hon, by omega, fC.rfl, fM.rfl, rfl⟩
    · show b_be_moveDown_9 _ _ = _
      simp only [b_be_moveDown_9, neg, if_true]
      rcases hf with rfl | rfl <;> rfl
    · intro k42 x1 x2 x3
      show b_m_back_58 _ _ _ = _
      simp only [b_m_back_58, neg, if_true, b_m_back_157, show x2 + nI 0 = x2 from Int32.add_zero _]
      rcases hf with rfl | rfl
      · rw [if_pos rfl]
      · rw [if_neg one_ne]
  | succ i ih =>
    intro N c m fl n1 n2 hi h1 h2 h hon hf hg
    obtain ⟨n1, rfl⟩ : ∃ q, n1 = q + 1 := ⟨n1 - 1, by omega⟩
    obtain ⟨n2, rfl⟩ : ∃ q, n2 = q + 1 := ⟨n2 - 1, by omega⟩
    have n13 := h.all.belt.n13
    have im : nI (i + 1) + (-1) = nI i := q_np' (by omega)
    have nj : ¬ nI i < 0 := by rw [show (0 : Int32) = nI 0 from rfl, q_lt (by omega) (by omega)]; omega
    have i60 : i < 60 := by omega
    have lt := h.all.belt.rlt i (by omega)
    have row := h.all.belt.row i (by omega)
    rw [im]
    by_cases c105 : 105 ≤ (f_gI c 13 (f_gR c i) 4).toInt
    · have ge : (105 : Int32) ≤ f_gI c 13 (f_gR c i) 4 := by rw [Int32.le_iff_toInt_le]; exact c105
      have nle : ¬ f_gI c 13 (f_gR c i) 4 ≤ 104 := by rw [Int32.le_iff_toInt_le, show (104 : Int32).toInt = 104 from rfl]; omega
      obtain ⟨c', m', N', r, fl', i1, i2, i3, i4⟩ := ih N c m fl n1 n2 (by omega) (by omega) (by omega) h hon hf (by
        intro j hj hN fr
        have := h.all.belt.gap j (by omega)
        rw [hj] at this
        have := (h.all.belt.ok j (by omega)).ln1
        omega)
      refine ⟨c', m', N', r, fl', i1, ?_, ?_, i4⟩
      · show b_be_moveDown_9 _ _ = _
        simp only [b_be_moveDown_9, b_be_moveDown_34, nj, if_false, q_gd (q_ib (show i < 16 by omega) (by decide)), q_ix (show i < 2147483648 by omega), q_gd' lt, ge, if_true]
        exact i2
      · intro k42 x1 x2 x3
        show b_m_back_58 _ _ _ = _
        simp only [b_m_back_58, b_m_back_136, nj, if_false, m_g2 i60, q_bd, ← row.fro, nle]
        exact i3 k42 x1 x2 x3
    · have nge : ¬ (105 : Int32) ≤ f_gI c 13 (f_gR c i) 4 := by rw [Int32.le_iff_toInt_le]; exact c105
      obtain ⟨c1, m1, N1, r1, a1, a2, a3, a4, a5, a6, a7, a8, a9, a10⟩ := s_downAt h hon (j := i) (by omega) (by omega) (fun x => hg i rfl x (by omega))
      obtain ⟨c', m', N', r, fl', i1, i2, i3, i4, i5, i6, i7, i8, i9⟩ := ih N1 c1 m1 1 n1 n2 (by omega) (by omega) (by omega) a3 a4 (Or.inr rfl) (by
        intro j hj hN fr
        rcases a7 with ⟨e1, e2, e3⟩ | e1
        · obtain ⟨b1, b2⟩ := a6 j (by omega)
          rw [e2, e3, b1, b2, b2]
          have := h.all.belt.gap j (by omega)
          rw [hj] at this
          omega
        · omega)
      refine ⟨c', m', N', r1 + r, fl', i1, ?_, ?_, i4, i5, by omega, a8.trans i7, a9.trans i8, i9.trans a10⟩
      · show b_be_moveDown_9 _ _ = _
        simp only [b_be_moveDown_9, b_be_moveDown_34, nj, if_false, q_gd (q_ib (show i < 16 by omega) (by decide)), q_ix (show i < 2147483648 by omega), q_gd' lt, nge, a1, q_bd]
        exact i2
      · intro k42 x1 x2 x3
        show b_m_back_58 _ _ _ = _
        rw [a2, i3, ← q_na, Int32.add_assoc]
theorem s_back {e K A N0 : Nat} (hA : A ≤ 300) : ∀ d x r0 N c m n1 n2, x + d = A → d < n1 → d < n2 → rRel e K N c m → f_gI c 23 0 2 = 1 → ∃ c' m' N', N' ≤ N ∧ f_it b_b_back_25 n1 (nI A, nI N0, nI x, c) = some (.inl (nI N0 - nI N'), c') ∧ f_it b_m_back_42 n2 (nI A, nI r0, nI x, m) = some (nI (r0 + (N - N')), m') ∧ rRel e K N' c' m' ∧ fC c c' ∧ fM m m' ∧ f_gI m' 30 0 25 = f_gI m 30 0 25 := by
  intro d
  induction d with
  | zero =>
    intro x r0 N c m n1 n2 hx h1 h2 h hon
    obtain ⟨n1, rfl⟩ : ∃ q, n1 = q + 1 := ⟨n1 - 1, by omega⟩
    obtain ⟨n2, rfl⟩ : ∃ q, n2 = q + 1 := ⟨n2 - 1, by omega⟩
    obtain rfl : x = A := by omega
    refine ⟨c, m, N, Nat.le_refl _, ?_, ?_, h, fC.rfl, fM.rfl, rfl⟩
    · show b_b_back_25 _ _ = _
      simp only [b_b_back_25, Int32.le_refl, if_true, h.all.belt.cnt]
    · show b_m_back_42 _ _ = _
      simp only [b_m_back_42, Int32.le_refl, if_true]
      rw [show r0 + (N - N) = r0 by omega]
  | succ d ih =>
    intro x r0 N c m n1 n2 hx h1 h2 h hon
    obtain ⟨n1, rfl⟩ : ∃ q, n1 = q + 1 := ⟨n1 - 1, by omega⟩
    obtain ⟨n2, rfl⟩ : ∃ q, n2 = q + 1 := ⟨n2 - 1, by omega⟩
    have n13 := h.all.belt.n13
    have nle : ¬ nI A ≤ nI x := by rw [q_le (by omega) (by omega)]; omega
    obtain ⟨c1, m1, N1, r, fl, i1, i2, i3, i4, i5, i6, i7, i8, i9⟩ := s_down (e := e) (K := K) N N c m 0 2000 2000 (Nat.le_refl _) (by omega) (by omega) h hon (Or.inl rfl) (by intro j _ x; omega)
    have s1 : nI N - 1 = nI N + (-1) := Int32.sub_eq_add_neg _ _
    -- both with the count of the steps back
    have rel : ∀ c2, (c2 = (if fl = 0 then c1 else f_pI c1 0 0 11 (f_gI c1 0 0 11 + 1))) → rRel e K N1 c2 (f_pI m1 30 0 16 (f_gI m1 30 0 16 + fl)) ∧ f_gI c2 23 0 2 = 1 ∧ fC c1 c2 := by
      intro c2 hc2
      obtain ⟨e5, K9, cat, belt, bins, ⟨V, vou⟩, jou, ⟨t, a, lat⟩, tot, mon⟩ := i4.all
      rcases i1 with rfl | rfl
      · rw [if_pos rfl] at hc2
        subst hc2
        refine ⟨rRel.mk (rAll.mk e5 K9 ?_ ?_ ?_ ?_ ?_ ?_ ?_ ?_) i4.r110 i4.unp, i5, fC.rfl⟩
        any_goals (first | exact rCat.to ‹_› (by (intros; first | rfl | ((try simp (disch := omega) only [g_eq, g_ne, g_R, g_O, g_IR, g_IO, g_RO, g_OO, g_OR, g_RRe, g_RRn]); done) | fail)) (by (intros; first | rfl | ((try simp (disch := omega) only [g_eq, g_ne, g_R, g_O, g_IR, g_IO, g_RO, g_OO, g_OR, g_RRe, g_RRn]); done) | fail)) | exact rBelt.to ‹_› (by (intros; first | rfl | ((try simp (disch := omega) only [g_eq, g_ne, g_R, g_O, g_IR, g_IO, g_RO, g_OO, g_OR, g_RRe, g_RRn]); done) | fail)) (by (intros; first | rfl | ((try simp (disch := omega) only [g_eq, g_ne, g_R, g_O, g_IR, g_IO, g_RO, g_OO, g_OR, g_RRe, g_RRn]); done) | fail)) (by (intros; first | rfl | ((try simp (disch := omega) only [g_eq, g_ne, g_R, g_O, g_IR, g_IO, g_RO, g_OO, g_OR, g_RRe, g_RRn]); done) | fail)) (by (intros; first | rfl | ((try simp (disch := omega) only [g_eq, g_ne, g_R, g_O, g_IR, g_IO, g_RO, g_OO, g_OR, g_RRe, g_RRn]); done) | fail)) (by (intros; first | rfl | ((try simp (disch := omega) only [g_eq, g_ne, g_R, g_O, g_IR, g_IO, g_RO, g_OO, g_OR, g_RRe, g_RRn]); done) | fail)) | exact rBins.to ‹_› (by (intros; first | rfl | ((try simp (disch := omega) only [g_eq, g_ne, g_R, g_O, g_IR, g_IO, g_RO, g_OO, g_OR, g_RRe, g_RRn]); done) | fail)) (by (intros; first | rfl | ((try simp (disch := omega) only [g_eq, g_ne, g_R, g_O, g_IR, g_IO, g_RO, g_OO, g_OR, g_RRe, g_RRn]); done) | fail)) | exact ⟨_, rVou.to ‹_› (by (intros; first | rfl | ((try simp (disch := omega) only [g_eq, g_ne, g_R, g_O, g_IR, g_IO, g_RO, g_OO, g_OR, g_RRe, g_RRn]); done) | fail)) (by (intros; first | rfl | ((try simp (disch := omega) only [g_eq, g_ne, g_R, g_O, g_IR, g_IO, g_RO, g_OO, g_OR, g_RRe, g_RRn]); done) | fail)) (by (intros; first | rfl | ((try simp (disch := omega) only [g_eq, g_ne, g_R, g_O, g_IR, g_IO, g_RO, g_OO, g_OR, g_RRe, g_RRn]); done) | fail)) (by (intros; first | rfl | ((try simp (disch := omega) only [g_eq, g_ne, g_R, g_O, g_IR, g_IO, g_RO, g_OO, g_OR, g_RRe, g_RRn]); done) | fail)) (by (intros; first | rfl | ((try simp (disch := omega) only [g_eq, g_ne, g_R, g_O, g_IR, g_IO, g_RO, g_OO, g_OR, g_RRe, g_RRn]); done) | fail))⟩ | exact rJou.to ‹_› (by (intros; first | rfl | ((try simp (disch := omega) only [g_eq, g_ne, g_R, g_O, g_IR, g_IO, g_RO, g_OO, g_OR, g_RRe, g_RRn]); done) | fail)) (by (intros; first | rfl | ((try simp (disch := omega) only [g_eq, g_ne, g_R, g_O, g_IR, g_IO, g_RO, g_OO, g_OR, g_RRe, g_RRn]); done) | fail)) (by (intros; first | rfl | ((try simp (disch := omega) only [g_eq, g_ne, g_R, g_O, g_IR, g_IO, g_RO, g_OO, g_OR, g_RRe, g_RRn]); done) | fail)) (by (intros; first | rfl | ((try simp (disch := omega) only [g_eq, g_ne, g_R, g_O, g_IR, g_IO, g_RO, g_OO, g_OR, g_RRe, g_RRn]); done) | fail)) | exact ⟨_, _, rLat.to ‹_› (Nat.le_refl _) (by (intros; first | rfl | ((try simp (disch := omega) only [g_eq, g_ne, g_R, g_O, g_IR, g_IO, g_RO, g_OO, g_OR, g_RRe, g_RRn]); done) | fail)) (by (intros; first | rfl | ((try simp (disch := omega) only [g_eq, g_ne, g_R, g_O, g_IR, g_IO, g_RO, g_OO, g_OR, g_RRe, g_RRn]); done) | fail)) (by (intros; first | rfl | ((try simp (disch := omega) only [g_eq, g_ne, g_R, g_O, g_IR, g_IO, g_RO, g_OO, g_OR, g_RRe, g_RRn]); done) | fail))⟩ | exact rTot.to ‹_› (by (intros; first | rfl | ((try simp (disch := omega) only [g_eq, g_ne, g_R, g_O, g_IR, g_IO, g_RO, g_OO, g_OR, g_RRe, g_RRn]); done) | fail)) (by (intros; first | rfl | ((try simp (disch := omega) only [g_eq, g_ne, g_R, g_O, g_IR, g_IO, g_RO, g_OO, g_OR, g_RRe, g_RRn]); done) | fail)) (by (intros; first | rfl | ((try simp (disch := omega) only [g_eq, g_ne, g_R, g_O, g_IR, g_IO, g_RO, g_OO, g_OR, g_RRe, g_RRn]); done) | fail)) (by (intros; first | rfl | ((try simp (disch := omega) only [g_eq, g_ne, g_R, g_O, g_IR, g_IO, g_RO, g_OO, g_OR, g_RRe, g_RRn]); done) | fail)) (by (intros; first | rfl | ((try simp (disch := omega) only [g_eq, g_ne, g_R, g_O, g_IR, g_IO, g_RO, g_OO, g_OR, g_RRe, g_RRn]); done) | fail)) (by (intros; first | rfl | ((try simp (disch := omega) only [g_eq, g_ne, g_R, g_O, g_IR, g_IO, g_RO, g_OO, g_OR, g_RRe, g_RRn]); done) | fail)) (by (intros; first | rfl | ((try simp (disch := omega) only [g_eq, g_ne, g_R, g_O, g_IR, g_IO, g_RO, g_OO, g_OR, g_RRe, g_RRn]); done) | fail)) (by (intros; first | rfl | ((try simp (disch := omega) only [g_eq, g_ne, g_R, g_O, g_IR, g_IO, g_RO, g_OO, g_OR, g_RRe, g_RRn]); done) | fail)) | exact rMon.to ‹_› (Nat.le_refl _) (by (intros; first | rfl | ((try simp (disch := omega) only [g_eq, g_ne, g_R, g_O, g_IR, g_IO, g_RO, g_OO, g_OR, g_RRe, g_RRn]); done) | fail)) (by (intros; first | rfl | ((try simp (disch := omega) only [g_eq, g_ne, g_R, g_O, g_IR, g_IO, g_RO, g_OO, g_OR, g_RRe, g_RRn]); done) | fail)) (by (intros; first | rfl | ((try simp (disch := omega) only [g_eq, g_ne, g_R, g_O, g_IR, g_IO, g_RO, g_OO, g_OR, g_RRe, g_RRn]); done) | fail)) | fail)
        · refine rTot.mk ?_ ?_ ?_ ?_ ?_ ?_
          · (try simp (disch := omega) only [g_eq, g_ne, g_R, g_O, g_IR, g_IO, g_RO, g_OO, g_OR, g_RRe, g_RRn]); exact tot.cre
          · (try simp (disch := omega) only [g_eq, g_ne, g_R, g_O, g_IR, g_IO, g_RO, g_OO, g_OR, g_RRe, g_RRn]); exact tot.pad
          · (try simp (disch := omega) only [g_eq, g_ne, g_R, g_O, g_IR, g_IO, g_RO, g_OO, g_OR, g_RRe, g_RRn]); exact tot.sum
          · (try simp (disch := omega) only [g_eq, g_ne, g_R, g_O, g_IR, g_IO, g_RO, g_OO, g_OR, g_RRe, g_RRn]); exact tot.giv
          · (try simp (disch := omega) only [g_eq, g_ne, g_R, g_O, g_IR, g_IO, g_RO, g_OO, g_OR, g_RRe, g_RRn]); rw [Int32.add_zero]; exact tot.sus
          · intro i hi; (try simp (disch := omega) only [g_eq, g_ne, g_R, g_O, g_IR, g_IO, g_RO, g_OO, g_OR, g_RRe, g_RRn]); exact tot.ref i hi
      · rw [if_neg one_ne] at hc2
        subst hc2
        refine ⟨rRel.mk (rAll.mk e5 K9 ?_ ?_ ?_ ?_ ?_ ?_ ?_ ?_) ?_ ?_, by (try simp (disch := omega) only [g_eq, g_ne, g_R, g_O, g_IR, g_IO, g_RO, g_OO, g_OR, g_RRe, g_RRn]); exact i5, fC.rfl.put (by decide)⟩
        any_goals (first | exact rCat.to ‹_› (by (intros; first | rfl | ((try simp (disch := omega) only [g_eq, g_ne, g_R, g_O, g_IR, g_IO, g_RO, g_OO, g_OR, g_RRe, g_RRn]); done) | fail)) (by (intros; first | rfl | ((try simp (disch := omega) only [g_eq, g_ne, g_R, g_O, g_IR, g_IO, g_RO, g_OO, g_OR, g_RRe, g_RRn]); done) | fail)) | exact rBelt.to ‹_› (by (intros; first | rfl | ((try simp (disch := omega) only [g_eq, g_ne, g_R, g_O, g_IR, g_IO, g_RO, g_OO, g_OR, g_RRe, g_RRn]); done) | fail)) (by (intros; first | rfl | ((try simp (disch := omega) only [g_eq, g_ne, g_R, g_O, g_IR, g_IO, g_RO, g_OO, g_OR, g_RRe, g_RRn]); done) | fail)) (by (intros; first | rfl | ((try simp (disch := omega) only [g_eq, g_ne, g_R, g_O, g_IR, g_IO, g_RO, g_OO, g_OR, g_RRe, g_RRn]); done) | fail)) (by (intros; first | rfl | ((try simp (disch := omega) only [g_eq, g_ne, g_R, g_O, g_IR, g_IO, g_RO, g_OO, g_OR, g_RRe, g_RRn]); done) | fail)) (by (intros; first | rfl | ((try simp (disch := omega) only [g_eq, g_ne, g_R, g_O, g_IR, g_IO, g_RO, g_OO, g_OR, g_RRe, g_RRn]); done) | fail)) | exact rBins.to ‹_› (by (intros; first | rfl | ((try simp (disch := omega) only [g_eq, g_ne, g_R, g_O, g_IR, g_IO, g_RO, g_OO, g_OR, g_RRe, g_RRn]); done) | fail)) (by (intros; first | rfl | ((try simp (disch := omega) only [g_eq, g_ne, g_R, g_O, g_IR, g_IO, g_RO, g_OO, g_OR, g_RRe, g_RRn]); done) | fail)) | exact ⟨_, rVou.to ‹_› (by (intros; first | rfl | ((try simp (disch := omega) only [g_eq, g_ne, g_R, g_O, g_IR, g_IO, g_RO, g_OO, g_OR, g_RRe, g_RRn]); done) | fail)) (by (intros; first | rfl | ((try simp (disch := omega) only [g_eq, g_ne, g_R, g_O, g_IR, g_IO, g_RO, g_OO, g_OR, g_RRe, g_RRn]); done) | fail)) (by (intros; first | rfl | ((try simp (disch := omega) only [g_eq, g_ne, g_R, g_O, g_IR, g_IO, g_RO, g_OO, g_OR, g_RRe, g_RRn]); done) | fail)) (by (intros; first | rfl | ((try simp (disch := omega) only [g_eq, g_ne, g_R, g_O, g_IR, g_IO, g_RO, g_OO, g_OR, g_RRe, g_RRn]); done) | fail)) (by (intros; first | rfl | ((try simp (disch := omega) only [g_eq, g_ne, g_R, g_O, g_IR, g_IO, g_RO, g_OO, g_OR, g_RRe, g_RRn]); done) | fail))⟩ | exact rJou.to ‹_› (by (intros; first | rfl | ((try simp (disch := omega) only [g_eq, g_ne, g_R, g_O, g_IR, g_IO, g_RO, g_OO, g_OR, g_RRe, g_RRn]); done) | fail)) (by (intros; first | rfl | ((try simp (disch := omega) only [g_eq, g_ne, g_R, g_O, g_IR, g_IO, g_RO, g_OO, g_OR, g_RRe, g_RRn]); done) | fail)) (by (intros; first | rfl | ((try simp (disch := omega) only [g_eq, g_ne, g_R, g_O, g_IR, g_IO, g_RO, g_OO, g_OR, g_RRe, g_RRn]); done) | fail)) (by (intros; first | rfl | ((try simp (disch := omega) only [g_eq, g_ne, g_R, g_O, g_IR, g_IO, g_RO, g_OO, g_OR, g_RRe, g_RRn]); done) | fail)) | exact ⟨_, _, rLat.to ‹_› (Nat.le_refl _) (by (intros; first | rfl | ((try simp (disch := omega) only [g_eq, g_ne, g_R, g_O, g_IR, g_IO, g_RO, g_OO, g_OR, g_RRe, g_RRn]); done) | fail)) (by (intros; first | rfl | ((try simp (disch := omega) only [g_eq, g_ne, g_R, g_O, g_IR, g_IO, g_RO, g_OO, g_OR, g_RRe, g_RRn]); done) | fail)) (by (intros; first | rfl | ((try simp (disch := omega) only [g_eq, g_ne, g_R, g_O, g_IR, g_IO, g_RO, g_OO, g_OR, g_RRe, g_RRn]); done) | fail))⟩ | exact rTot.to ‹_› (by (intros; first | rfl | ((try simp (disch := omega) only [g_eq, g_ne, g_R, g_O, g_IR, g_IO, g_RO, g_OO, g_OR, g_RRe, g_RRn]); done) | fail)) (by (intros; first | rfl | ((try simp (disch := omega) only [g_eq, g_ne, g_R, g_O, g_IR, g_IO, g_RO, g_OO, g_OR, g_RRe, g_RRn]); done) | fail)) (by (intros; first | rfl | ((try simp (disch := omega) only [g_eq, g_ne, g_R, g_O, g_IR, g_IO, g_RO, g_OO, g_OR, g_RRe, g_RRn]); done) | fail)) (by (intros; first | rfl | ((try simp (disch := omega) only [g_eq, g_ne, g_R, g_O, g_IR, g_IO, g_RO, g_OO, g_OR, g_RRe, g_RRn]); done) | fail)) (by (intros; first | rfl | ((try simp (disch := omega) only [g_eq, g_ne, g_R, g_O, g_IR, g_IO, g_RO, g_OO, g_OR, g_RRe, g_RRn]); done) | fail)) (by (intros; first | rfl | ((try simp (disch := omega) only [g_eq, g_ne, g_R, g_O, g_IR, g_IO, g_RO, g_OO, g_OR, g_RRe, g_RRn]); done) | fail)) (by (intros; first | rfl | ((try simp (disch := omega) only [g_eq, g_ne, g_R, g_O, g_IR, g_IO, g_RO, g_OO, g_OR, g_RRe, g_RRn]); done) | fail)) (by (intros; first | rfl | ((try simp (disch := omega) only [g_eq, g_ne, g_R, g_O, g_IR, g_IO, g_RO, g_OO, g_OR, g_RRe, g_RRn]); done) | fail)) | exact rMon.to ‹_› (Nat.le_refl _) (by (intros; first | rfl | ((try simp (disch := omega) only [g_eq, g_ne, g_R, g_O, g_IR, g_IO, g_RO, g_OO, g_OR, g_RRe, g_RRn]); done) | fail)) (by (intros; first | rfl | ((try simp (disch := omega) only [g_eq, g_ne, g_R, g_O, g_IR, g_IO, g_RO, g_OO, g_OR, g_RRe, g_RRn]); done) | fail)) (by (intros; first | rfl | ((try simp (disch := omega) only [g_eq, g_ne, g_R, g_O, g_IR, g_IO, g_RO, g_OO, g_OR, g_RRe, g_RRn]); done) | fail)) | fail)
        · refine rTot.mk ?_ ?_ ?_ ?_ ?_ ?_
          · (try simp (disch := omega) only [g_eq, g_ne, g_R, g_O, g_IR, g_IO, g_RO, g_OO, g_OR, g_RRe, g_RRn]); exact tot.cre
          · (try simp (disch := omega) only [g_eq, g_ne, g_R, g_O, g_IR, g_IO, g_RO, g_OO, g_OR, g_RRe, g_RRn]); exact tot.pad
          · (try simp (disch := omega) only [g_eq, g_ne, g_R, g_O, g_IR, g_IO, g_RO, g_OO, g_OR, g_RRe, g_RRn]); exact tot.sum
          · (try simp (disch := omega) only [g_eq, g_ne, g_R, g_O, g_IR, g_IO, g_RO, g_OO, g_OR, g_RRe, g_RRn]); exact tot.giv
          · (try simp (disch := omega) only [g_eq, g_ne, g_R, g_O, g_IR, g_IO, g_RO, g_OO, g_OR, g_RRe, g_RRn]); rw [tot.sus]
          · intro i hi; (try simp (disch := omega) only [g_eq, g_ne, g_R, g_O, g_IR, g_IO, g_RO, g_OO, g_OR, g_RRe, g_RRn]); exact tot.ref i hi
        · have u : ∀ j, rU (f_pI c1 0 0 11 (f_gI c1 0 0 11 + 1)) j = rU c1 j := fun j => by unfold rU; (try simp (disch := omega) only [g_eq, g_ne, g_R, g_O, g_IR, g_IO, g_RO, g_OO, g_OR, g_RRe, g_RRn])
          refine rMon.mk ?_ ?_ ?_ ?_ ?_
          · (try simp (disch := omega) only [g_eq, g_ne, g_R, g_O, g_IR, g_IO, g_RO, g_OO, g_OR, g_RRe, g_RRn]); exact mon.p0
          · (try simp (disch := omega) only [g_eq, g_ne, g_R, g_O, g_IR, g_IO, g_RO, g_OO, g_OR, g_RRe, g_RRn]); rw [q_sm_congr N1 fun j _ => u j]; exact mon.pe
          · (try simp (disch := omega) only [g_eq, g_ne, g_R, g_O, g_IR, g_IO, g_RO, g_OO, g_OR, g_RRe, g_RRn]); exact mon.en
          · (try simp (disch := omega) only [g_eq, g_ne, g_R, g_O, g_IR, g_IO, g_RO, g_OO, g_OR, g_RRe, g_RRn]); exact mon.c0
          · (try simp (disch := omega) only [g_eq, g_ne, g_R, g_O, g_IR, g_IO, g_RO, g_OO, g_OR, g_RRe, g_RRn]); exact mon.cp
        · (try simp (disch := omega) only [g_eq, g_ne, g_R, g_O, g_IR, g_IO, g_RO, g_OO, g_OR, g_RRe, g_RRn]); exact i4.r110
        · (try simp (disch := omega) only [g_eq, g_ne, g_R, g_O, g_IR, g_IO, g_RO, g_OO, g_OR, g_RRe, g_RRn]); exact i4.unp
    obtain ⟨q1, q2, q3⟩ := rel _ rfl
    obtain ⟨c', m', N', j0, j1, j2, j3, j4, j5, j6⟩ := ih (x + 1) (r0 + r) N1 _ _ n1 n2 (by omega) (by omega) (by omega) q1 q2
    refine ⟨c', m', N', by omega, ?_, ?_, j3, (i7.trans q3).trans j4, (i8.put (by decide)).trans j5, ?_⟩
    · show b_b_back_25 _ _ = _
      simp only [b_b_back_25, b_b_back_50, nle, if_false, F_be_moveDown, h.all.belt.cnt, s1]
      rw [i2, q_bd, q_n1]
      rcases i1 with rfl | rfl
      · rw [if_pos rfl] at j1 ⊢; exact j1
      · rw [if_neg one_ne] at j1 ⊢; exact j1
    · show b_m_back_42 _ _ = _
      simp only [b_m_back_42, nle, if_false, h.all.belt.siz, s1]
      rw [i3, q_na, q_n1, j2, show r0 + r + (N1 - N') = r0 + (N - N') by omega]
    · rw [j6]; (try simp (disch := omega) only [g_eq, g_ne, g_R, g_O, g_IR, g_IO, g_RO, g_OO, g_OR, g_RRe, g_RRn]); exact i9
theorem o_back (a : Int32) : qOk aI (F_l_back a) (F_m_back a) := by
  apply qOk.mk
  intro e K N c m he hK h
  rcases h.all.jou.on with ⟨q1, q2⟩ | ⟨q1, q2⟩
  · rcases q_w01 a 0 300 with w | ⟨w, w1, w2⟩
    · refine qI_no h (t := 2) (by decide) ?_ ?_
      · simp only [F_l_back, F_b_back, c_on q1, q_bl, c_wi, q_bd, w, c_rq0, q_br]; rfl
      · simp only [F_m_back, q2, m_f0, q_bd, m_wi, w, if_true, b_m_back_29, m_f1, one_ne, if_false, g_pp]
    have w1 : 0 ≤ a.toInt := w1
    have w2 : a.toInt ≤ 300 := w2
    have aA := q_ex w1
    have A3 : a.toInt.toNat ≤ 300 := by omega
    generalize a.toInt.toNat = A at aA A3
    subst aA
    have ht := h.thr (v := 0)
    have n13 := ht.all.belt.n13
    obtain ⟨c', m', N', j0, j1, j2, j3, j4, j5, j6⟩ := s_back (N0 := N) A3 A 0 0 N c (f_pI m 30 0 25 0) 2000 2000 (by omega) (by omega) (by omega) ht q1
    refine qI_yes (c' := c') (m' := m') (N' := N') (e' := e) (K' := K) (v := nI (0 + (N - N'))) (x := (nI N - nI N').toInt64) ?_ ?_ (by rw [q_ns j0, Nat.zero_add]) ?_ (by omega) (by omega) j3 j4 ((fM.rfl.put (by decide)).trans j5)
    · simp only [F_l_back, F_b_back, c_on q1, q_bl, c_wi, q_bd, w, c_rq1, ht.all.belt.cnt]
      rw [show f_it b_b_back_25 2000 (nI A, nI N, 0, c) = _ from j1]; rfl
    · simp only [F_m_back, q2, m_f0, q_bd, m_wi, w, if_true, b_m_back_29, one_ne, if_false, g_pp]
      exact j2
    · rw [j6]; (try simp (disch := omega) only [g_eq, g_ne, g_R, g_O, g_IR, g_IO, g_RO, g_OO, g_OR, g_RRe, g_RRn])
  · refine qI_no h (t := 1) (by decide) ?_ ?_
    · simp only [F_l_back, F_b_back, c_off q1, q_br]; rfl
    · simp only [F_m_back, q2, m_f1, q_bd, one_ne, if_false]
