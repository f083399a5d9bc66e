set_option linter.unusedVariables false
set_option linter.unusedSimpArgs false
/-! enter, kind, contour, clear -/
/-- the reference's memory with other cells of the row N alone -/
theorem s_zero {N : Nat} {m : fST} {a : Int32} (hN : N < 60) (hs : f_gI m 30 0 4 = nI N) : ∃ s, (∀ x, 20 * N ≤ x → x < 20 * N + 20 → f_gI s 34 0 x = 0) ∧ (∀ x, (x < 20 * N ∨ 20 * N + 20 ≤ x) → f_gI s 34 0 x = f_gI m 34 0 x) ∧ (∀ k i j, k ≠ 34 → f_gI s k i j = f_gI m k i j) ∧ fM m s ∧ f_it b_m_enter_72 2000 (a, 0, m) = some (f_gI s 30 0 5, f_pI (f_pI (f_pI (f_pI (f_pI s 34 0 (20 * N) (f_gI s 30 0 5)) 34 0 (20 * N + 1) a) 34 0 (20 * N + 4) (-1)) 34 0 (20 * N + 6) (-1)) 30 0 4 (nI (N + 1))) := by
  refine Exists.elim (q_loop0 (body := b_m_enter_72) (fun j s => (a, nI j, s)) 20 (fun j s => (∀ x, 20 * N ≤ x → x < 20 * N + j → f_gI s 34 0 x = 0) ∧ (∀ x, (x < 20 * N ∨ 20 * N + j ≤ x) → f_gI s 34 0 x = f_gI m 34 0 x) ∧ (∀ k i j, k ≠ 34 → f_gI s k i j = f_gI m k i j) ∧ fM m s) (fun s => some (f_gI s 30 0 5, f_pI (f_pI (f_pI (f_pI (f_pI s 34 0 (20 * N) (f_gI s 30 0 5)) 34 0 (20 * N + 1) a) 34 0 (20 * N + 4) (-1)) 34 0 (20 * N + 6) (-1)) 30 0 4 (nI (N + 1)))) (by omega) ?_ ?_ m ⟨by omega, by (intros; first | rfl | ((try simp (disch := omega) only [g_eq, g_ne, g_R, g_O, g_IR, g_IO, g_RO, g_OO, g_OR, g_RRe, g_RRn]); done) | fail), by (intros; first | rfl | ((try simp (disch := omega) only [g_eq, g_ne, g_R, g_O, g_IR, g_IO, g_RO, g_OO, g_OR, g_RRe, g_RRn]); done) | fail), fM.rfl⟩) ?_
  · rintro k s ⟨h1, h2, h3, h4⟩
    have e4 : f_gI s 30 0 4 = nI N := (h3 _ _ _ (by decide)).trans hs
    have p0 (v : Int32) (z : fST) : F_m_put (nI N) 0 v z = some ((), f_pI z 34 0 (20 * N) v) := m_put (f := 0) (by omega)
    have p1 (v : Int32) (z : fST) : F_m_put (nI N) 1 v z = some ((), f_pI z 34 0 (20 * N + 1) v) := m_put (f := 1) (by omega)
    have p4 (v : Int32) (z : fST) : F_m_put (nI N) 4 v z = some ((), f_pI z 34 0 (20 * N + 4) v) := m_put (f := 4) (by omega)
    have p6 (v : Int32) (z : fST) : F_m_put (nI N) 6 v z = some ((), f_pI z 34 0 (20 * N + 6) v) := m_put (f := 6) (by omega)
    simp only [b_m_enter_72, show (20 : Int32) ≤ nI 20 from Int32.le_refl _, if_true, e4, p0, q_bd]
    (try simp (disch := omega) only [g_eq, g_ne, g_R, g_O, g_IR, g_IO, g_RO, g_OO, g_OR, g_RRe, g_RRn])
    simp only [e4, p1, q_bd]
    (try simp (disch := omega) only [g_eq, g_ne, g_R, g_O, g_IR, g_IO, g_RO, g_OO, g_OR, g_RRe, g_RRn])
    simp only [e4, p4, q_bd]
    (try simp (disch := omega) only [g_eq, g_ne, g_R, g_O, g_IR, g_IO, g_RO, g_OO, g_OR, g_RRe, g_RRn])
    simp only [e4, p6, q_bd]
    (try simp (disch := omega) only [g_eq, g_ne, g_R, g_O, g_IR, g_IO, g_RO, g_OO, g_OR, g_RRe, g_RRn])
    rw [e4, q_n1]
  · rintro j s hj ⟨h1, h2, h3, h4⟩
    have e4 : f_gI s 30 0 4 = nI N := (h3 _ _ _ (by decide)).trans hs
    refine ⟨f_pI s 34 0 (20 * N + j) 0, ?_, ?_, ?_, ?_, h4.put (by decide)⟩
    · intro k
      simp only [b_m_enter_72]
      rw [if_neg (by rw [show (20 : Int32) = nI 20 from rfl, q_le (by omega) (by omega)]; omega), e4, m_put (by omega), q_bd, q_n1]
    · intro x a b
      by_cases q : x = 20 * N + j
      · subst q; (try simp (disch := omega) only [g_eq, g_ne, g_R, g_O, g_IR, g_IO, g_RO, g_OO, g_OR, g_RRe, g_RRn])
      · (try simp (disch := omega) only [g_eq, g_ne, g_R, g_O, g_IR, g_IO, g_RO, g_OO, g_OR, g_RRe, g_RRn]); exact h1 x a (by omega)
    · intro x a; (try simp (disch := omega) only [g_eq, g_ne, g_R, g_O, g_IR, g_IO, g_RO, g_OO, g_OR, g_RRe, g_RRn]); exact h2 x (by omega)
    · intro k i f a; (try simp (disch := omega) only [g_eq, g_ne, g_R, g_O, g_IR, g_IO, g_RO, g_OO, g_OR, g_RRe, g_RRn]); exact h3 k i f a
  · rintro s ⟨⟨h1, h2, h3, h4⟩, h5⟩
    exact ⟨s, h1, h2, h3, h4, h5⟩
theorem o_enter (a : Int32) : qOk aI (F_l_enter a) (F_m_enter a) := by
  apply qOk.mk
  intro e K N c m he hK h
  rcases h.all.jou.on with ⟨q1, q2⟩ | ⟨q1, q2⟩
  · rcases q_w01 a 5 40 with w | ⟨w, w1, w2⟩
    · refine qI_no h (t := 2) (by decide) ?_ ?_
      · simp only [F_l_enter, F_b_enter, c_on q1, q_bl, c_wi, q_bd, w, c_rq0, q_br]; rfl
      · simp only [F_m_enter, q2, m_f0, q_bd, m_wi, w, if_true, b_m_enter_28, m_f1, one_ne, if_false, g_pp]
    have ht := h.thr (v := 0)
    have B := ht.all.belt
    have n13 := B.n13
    have w1 : 5 ≤ a.toInt := w1
    have w2 : a.toInt ≤ 40 := w2
    by_cases can : N = 0 ∨ 4 ≤ (f_gI c 13 (f_gR c (N - 1)) 4).toInt - (f_gI c 13 (f_gR c (N - 1)) 3).toInt
    · have N12 : N ≤ 12 := by
        rcases can with x | x
        · omega
        · by_cases N0 : N = 0
          · omega
          · have := B.geo (N - 1) (by omega)
            omega
      obtain ⟨s, z1, z2, z3, z4, z5⟩ := s_zero (N := N) (m := f_pI (f_pI m 30 0 25 0) 30 0 5 (f_gI (f_pI m 30 0 25 0) 30 0 5 + 1)) (a := a) (by omega) (by (try simp (disch := omega) only [g_eq, g_ne, g_R, g_O, g_IR, g_IO, g_RO, g_OO, g_OR, g_RRe, g_RRn]); have := B.siz; revert this; (try simp (disch := omega) only [g_eq, g_ne, g_R, g_O, g_IR, g_IO, g_RO, g_OO, g_OR, g_RRe, g_RRn]); exact id)
      have lt : f_gR c N < 16 := B.rlt N (by omega)
      have cc : F_be_putIn a c = b_be_putIn_41 a c := by
        unfold F_be_putIn
        rw [B.cnt, if_pos (by rw [q_lt (by omega) (by omega)]; omega)]
        by_cases N0 : N = 0
        · rw [if_pos (by rw [show (0 : Int32) = nI 0 from rfl, q_le (by omega) (by omega)]; omega)]
        · have r := (B.ok (N - 1) (by omega)).rear
          rw [if_neg (by rw [show (0 : Int32) = nI 0 from rfl, q_le (by omega) (by omega)]; omega), q_np (by omega), q_gd (q_ib (by omega) (by decide)), q_ix (by omega), q_gd' (B.rlt _ (by omega))]
          simp only [F_co_rear, q_bd]
          rw [if_pos (by rw [Int32.le_iff_toInt_le, r, show (4 : Int32).toInt = 4 from rfl]; omega)]
      have mm : F_m_enter a m = b_m_enter_60 a (f_pI m 30 0 25 0) := by
        simp only [F_m_enter, q2, m_f0, q_bd, m_wi, w, if_true, b_m_enter_28, one_ne, if_false, g_pp]
        rw [B.siz]
        by_cases N0 : N = 0
        · rw [if_pos (by rw [show (0 : Int32) = nI 0 from rfl, q_le (by omega) (by omega)]; omega)]
        · have r := (B.ok (N - 1) (by omega)).rear
          have row := B.row (N - 1) (by omega)
          rw [if_neg (by rw [show (0 : Int32) = nI 0 from rfl, q_le (by omega) (by omega)]; omega), q_np (by omega), m_rear (by omega), q_bd, ← row.fro, ← row.len]
          rw [if_pos (by rw [Int32.le_iff_toInt_le, r, show (4 : Int32).toInt = 4 from rfl]; omega)]
      have s5 : f_gI s 30 0 5 = f_gI c 11 0 2 + 1 := by
        rw [z3 _ _ _ (by decide)]; (try simp (disch := omega) only [g_eq, g_ne, g_R, g_O, g_IR, g_IO, g_RO, g_OO, g_OR, g_RRe, g_RRn])
        have := B.ent; revert this; (try simp (disch := omega) only [g_eq, g_ne, g_R, g_O, g_IR, g_IO, g_RO, g_OO, g_OR, g_RRe, g_RRn]); intro this; rw [this]
      have en := h.all.mon.en
      have e0 : 0 ≤ (f_gI c 11 0 2).toInt := by have := h.all.mon.pe; have := h.all.mon.p0; omega
      have sn : (f_gI c 11 0 2 + 1).toInt = (f_gI c 11 0 2).toInt + 1 := by rw [q_add, l1] <;> rw [l1] <;> omega
      rw [s5] at z5
      obtain ⟨e5, K9, cat, belt, bins, ⟨V, vou⟩, jou, ⟨t, r, lat⟩, tot, mon⟩ := ht.all
      have hs : ∀ k i j, k ≠ 34 → (k ≠ 30 ∨ j ≠ 5) → f_gI s k i j = f_gI (f_pI m 30 0 25 0) k i j := fun k i j x y => by rw [z3 k i j x]; (try simp (disch := omega) only [g_eq, g_ne, g_R, g_O, g_IR, g_IO, g_RO, g_OO, g_OR, g_RRe, g_RRn])
      have cat : rCat c s := cat.to (by (intros; first | rfl | ((try simp (disch := omega) only [g_eq, g_ne, g_R, g_O, g_IR, g_IO, g_RO, g_OO, g_OR, g_RRe, g_RRn]); done) | fail)) (fun k i j _ _ => hs _ _ _ (by omega) (by omega))
      have bins : rBins c s := bins.to (by (intros; first | rfl | ((try simp (disch := omega) only [g_eq, g_ne, g_R, g_O, g_IR, g_IO, g_RO, g_OO, g_OR, g_RRe, g_RRn]); done) | fail)) (fun k i j _ _ => hs _ _ _ (by omega) (by omega))
      have vou : rVou V e c s := vou.to (by (intros; first | rfl | ((try simp (disch := omega) only [g_eq, g_ne, g_R, g_O, g_IR, g_IO, g_RO, g_OO, g_OR, g_RRe, g_RRn]); done) | fail)) (fun k i j _ _ => hs _ _ _ (by omega) (by omega)) (hs _ _ _ (by omega) (by omega)) (hs _ _ _ (by omega) (by omega)) (hs _ _ _ (by omega) (by omega))
      have vou : rVou V (e + 1) c s := (vou.up (by have := vou.se1; omega))
      have jou : rJou c s := jou.to (by (intros; first | rfl | ((try simp (disch := omega) only [g_eq, g_ne, g_R, g_O, g_IR, g_IO, g_RO, g_OO, g_OR, g_RRe, g_RRn]); done) | fail)) (hs _ _ _ (by omega) (by omega)) (hs _ _ _ (by omega) (by omega)) (hs _ _ _ (by omega) (by omega))
      have lat : rLat t r K c s := lat.to (Nat.le_refl _) (by (intros; first | rfl | ((try simp (disch := omega) only [g_eq, g_ne, g_R, g_O, g_IR, g_IO, g_RO, g_OO, g_OR, g_RRe, g_RRn]); done) | fail)) (fun j => hs _ _ _ (by omega) (by omega)) (hs _ _ _ (by omega) (by omega))
      have tot : rTot c s := tot.to (by (intros; first | rfl | ((try simp (disch := omega) only [g_eq, g_ne, g_R, g_O, g_IR, g_IO, g_RO, g_OO, g_OR, g_RRe, g_RRn]); done) | fail)) (by (intros; first | rfl | ((try simp (disch := omega) only [g_eq, g_ne, g_R, g_O, g_IR, g_IO, g_RO, g_OO, g_OR, g_RRe, g_RRn]); done) | fail)) (fun j => hs _ _ _ (by omega) (by omega)) (hs _ _ _ (by omega) (by omega)) (hs _ _ _ (by omega) (by omega)) (hs _ _ _ (by omega) (by omega)) (hs _ _ _ (by omega) (by omega)) (hs _ _ _ (by omega) (by omega))
      have pn : ∀ j, j < N → f_gR c j ≠ f_gR c N ∧ f_gR c j < 16 := fun j hj => ⟨fun q => by have := B.inj j N (by omega) (by omega) q; omega, B.rlt j (by omega)⟩
      generalize hp : f_gR c N = p at *
      refine qI_yes (c' := f_pI (f_pI (f_pI (f_pI (f_pI (f_pI (f_pI (f_pI (f_pI (f_pI (f_pI c 11 0 2 (f_gI c 11 0 2 + 1)) 13 p 2 (f_gI c 11 0 2 + 1)) 13 p 3 a) 13 p 4 0) 13 p 8 0) 14 p 1 0) 14 (p + 16) 1 0) 13 p 5 (-1)) 13 p 6 0) 13 p 7 (-1)) 11 0 1 (nI (N + 1))) (N' := N + 1) (e' := e + 1) (K' := K) (v := f_gI c 11 0 2 + 1) (x := (f_gI c 11 0 2 + 1).toInt64) ?_ (by rw [mm]; exact z5) rfl ?_ (by omega) (by omega) ?_ ?_ ?_
      · simp only [F_l_enter, F_b_enter, c_on q1, q_bl, c_wi, q_bd, w, c_rq1, cc, b_be_putIn_41]
        (try simp (disch := omega) only [g_eq, g_ne, g_R, g_O, g_IR, g_IO, g_RO, g_OO, g_OR, g_RRe, g_RRn])
        simp only [B.cnt, q_gd (q_ib (show N < 16 by omega) (by decide)), q_ix (show N < 2147483648 by omega), hp, q_gd' lt, F_co_begin, F_co_forget, q_bd]
        (try simp (disch := omega) only [g_eq, g_ne, g_R, g_O, g_IR, g_IO, g_RO, g_OO, g_OR, g_RRe, g_RRn])
        rw [B.cnt, q_n1]
        rfl
      · (try simp (disch := omega) only [g_eq, g_ne, g_R, g_O, g_IR, g_IO, g_RO, g_OO, g_OR, g_RRe, g_RRn]); rw [hs _ _ _ (by decide) (by decide)]; (try simp (disch := omega) only [g_eq, g_ne, g_R, g_O, g_IR, g_IO, g_RO, g_OO, g_OR, g_RRe, g_RRn])
      · refine rRel.mk (rAll.mk he K9 ?_ ?_ ?_ ?_ ?_ ?_ ?_ ?_) ?_ ?_
        any_goals (first | exact rCat.to ‹_› (by (intros; first | rfl | ((try simp (disch := omega) only [g_eq, g_ne, g_R, g_O, g_IR, g_IO, g_RO, g_OO, g_OR, g_RRe, g_RRn]); done) | fail)) (by (intros; first | rfl | ((try simp (disch := omega) only [g_eq, g_ne, g_R, g_O, g_IR, g_IO, g_RO, g_OO, g_OR, g_RRe, g_RRn]); done) | fail)) | exact rBelt.to ‹_› (by (intros; first | rfl | ((try simp (disch := omega) only [g_eq, g_ne, g_R, g_O, g_IR, g_IO, g_RO, g_OO, g_OR, g_RRe, g_RRn]); done) | fail)) (by (intros; first | rfl | ((try simp (disch := omega) only [g_eq, g_ne, g_R, g_O, g_IR, g_IO, g_RO, g_OO, g_OR, g_RRe, g_RRn]); done) | fail)) (by (intros; first | rfl | ((try simp (disch := omega) only [g_eq, g_ne, g_R, g_O, g_IR, g_IO, g_RO, g_OO, g_OR, g_RRe, g_RRn]); done) | fail)) (by (intros; first | rfl | ((try simp (disch := omega) only [g_eq, g_ne, g_R, g_O, g_IR, g_IO, g_RO, g_OO, g_OR, g_RRe, g_RRn]); done) | fail)) (by (intros; first | rfl | ((try simp (disch := omega) only [g_eq, g_ne, g_R, g_O, g_IR, g_IO, g_RO, g_OO, g_OR, g_RRe, g_RRn]); done) | fail)) | exact rBins.to ‹_› (by (intros; first | rfl | ((try simp (disch := omega) only [g_eq, g_ne, g_R, g_O, g_IR, g_IO, g_RO, g_OO, g_OR, g_RRe, g_RRn]); done) | fail)) (by (intros; first | rfl | ((try simp (disch := omega) only [g_eq, g_ne, g_R, g_O, g_IR, g_IO, g_RO, g_OO, g_OR, g_RRe, g_RRn]); done) | fail)) | exact ⟨_, rVou.to ‹_› (by (intros; first | rfl | ((try simp (disch := omega) only [g_eq, g_ne, g_R, g_O, g_IR, g_IO, g_RO, g_OO, g_OR, g_RRe, g_RRn]); done) | fail)) (by (intros; first | rfl | ((try simp (disch := omega) only [g_eq, g_ne, g_R, g_O, g_IR, g_IO, g_RO, g_OO, g_OR, g_RRe, g_RRn]); done) | fail)) (by (intros; first | rfl | ((try simp (disch := omega) only [g_eq, g_ne, g_R, g_O, g_IR, g_IO, g_RO, g_OO, g_OR, g_RRe, g_RRn]); done) | fail)) (by (intros; first | rfl | ((try simp (disch := omega) only [g_eq, g_ne, g_R, g_O, g_IR, g_IO, g_RO, g_OO, g_OR, g_RRe, g_RRn]); done) | fail)) (by (intros; first | rfl | ((try simp (disch := omega) only [g_eq, g_ne, g_R, g_O, g_IR, g_IO, g_RO, g_OO, g_OR, g_RRe, g_RRn]); done) | fail))⟩ | exact rJou.to ‹_› (by (intros; first | rfl | ((try simp (disch := omega) only [g_eq, g_ne, g_R, g_O, g_IR, g_IO, g_RO, g_OO, g_OR, g_RRe, g_RRn]); done) | fail)) (by (intros; first | rfl | ((try simp (disch := omega) only [g_eq, g_ne, g_R, g_O, g_IR, g_IO, g_RO, g_OO, g_OR, g_RRe, g_RRn]); done) | fail)) (by (intros; first | rfl | ((try simp (disch := omega) only [g_eq, g_ne, g_R, g_O, g_IR, g_IO, g_RO, g_OO, g_OR, g_RRe, g_RRn]); done) | fail)) (by (intros; first | rfl | ((try simp (disch := omega) only [g_eq, g_ne, g_R, g_O, g_IR, g_IO, g_RO, g_OO, g_OR, g_RRe, g_RRn]); done) | fail)) | exact ⟨_, _, rLat.to ‹_› (Nat.le_refl _) (by (intros; first | rfl | ((try simp (disch := omega) only [g_eq, g_ne, g_R, g_O, g_IR, g_IO, g_RO, g_OO, g_OR, g_RRe, g_RRn]); done) | fail)) (by (intros; first | rfl | ((try simp (disch := omega) only [g_eq, g_ne, g_R, g_O, g_IR, g_IO, g_RO, g_OO, g_OR, g_RRe, g_RRn]); done) | fail)) (by (intros; first | rfl | ((try simp (disch := omega) only [g_eq, g_ne, g_R, g_O, g_IR, g_IO, g_RO, g_OO, g_OR, g_RRe, g_RRn]); done) | fail))⟩ | exact rTot.to ‹_› (by (intros; first | rfl | ((try simp (disch := omega) only [g_eq, g_ne, g_R, g_O, g_IR, g_IO, g_RO, g_OO, g_OR, g_RRe, g_RRn]); done) | fail)) (by (intros; first | rfl | ((try simp (disch := omega) only [g_eq, g_ne, g_R, g_O, g_IR, g_IO, g_RO, g_OO, g_OR, g_RRe, g_RRn]); done) | fail)) (by (intros; first | rfl | ((try simp (disch := omega) only [g_eq, g_ne, g_R, g_O, g_IR, g_IO, g_RO, g_OO, g_OR, g_RRe, g_RRn]); done) | fail)) (by (intros; first | rfl | ((try simp (disch := omega) only [g_eq, g_ne, g_R, g_O, g_IR, g_IO, g_RO, g_OO, g_OR, g_RRe, g_RRn]); done) | fail)) (by (intros; first | rfl | ((try simp (disch := omega) only [g_eq, g_ne, g_R, g_O, g_IR, g_IO, g_RO, g_OO, g_OR, g_RRe, g_RRn]); done) | fail)) (by (intros; first | rfl | ((try simp (disch := omega) only [g_eq, g_ne, g_R, g_O, g_IR, g_IO, g_RO, g_OO, g_OR, g_RRe, g_RRn]); done) | fail)) (by (intros; first | rfl | ((try simp (disch := omega) only [g_eq, g_ne, g_R, g_O, g_IR, g_IO, g_RO, g_OO, g_OR, g_RRe, g_RRn]); done) | fail)) (by (intros; first | rfl | ((try simp (disch := omega) only [g_eq, g_ne, g_R, g_O, g_IR, g_IO, g_RO, g_OO, g_OR, g_RRe, g_RRn]); done) | fail)) | exact rMon.to ‹_› (Nat.le_refl _) (by (intros; first | rfl | ((try simp (disch := omega) only [g_eq, g_ne, g_R, g_O, g_IR, g_IO, g_RO, g_OO, g_OR, g_RRe, g_RRn]); done) | fail)) (by (intros; first | rfl | ((try simp (disch := omega) only [g_eq, g_ne, g_R, g_O, g_IR, g_IO, g_RO, g_OO, g_OR, g_RRe, g_RRn]); done) | fail)) (by (intros; first | rfl | ((try simp (disch := omega) only [g_eq, g_ne, g_R, g_O, g_IR, g_IO, g_RO, g_OO, g_OR, g_RRe, g_RRn]); done) | fail)) | fail)
        · refine rBelt.mk ?_ ?_ ?_ ?_ ?_ ?_ ?_ ?_ ?_
          · omega
          · (try simp (disch := omega) only [g_eq, g_ne, g_R, g_O, g_IR, g_IO, g_RO, g_OO, g_OR, g_RRe, g_RRn])
          · (try simp (disch := omega) only [g_eq, g_ne, g_R, g_O, g_IR, g_IO, g_RO, g_OO, g_OR, g_RRe, g_RRn])
          · (try simp (disch := omega) only [g_eq, g_ne, g_R, g_O, g_IR, g_IO, g_RO, g_OO, g_OR, g_RRe, g_RRn]); exact s5.symm
          · intro j hj; (try simp (disch := omega) only [g_eq, g_ne, g_R, g_O, g_IR, g_IO, g_RO, g_OO, g_OR, g_RRe, g_RRn]); exact B.rlt j hj
          · intro i j hi hj; (try simp (disch := omega) only [g_eq, g_ne, g_R, g_O, g_IR, g_IO, g_RO, g_OO, g_OR, g_RRe, g_RRn]); exact B.inj i j hi hj
          · intro j hj
            (try simp (disch := omega) only [g_eq, g_ne, g_R, g_O, g_IR, g_IO, g_RO, g_OO, g_OR, g_RRe, g_RRn])
            by_cases q : j = N
            · subst q
              rw [hp]
              refine rRow.mk ?_ ?_ ?_ ?_ ?_ ?_ ?_ ?_ ?_ ?_ ?_
              · (try simp (disch := omega) only [g_eq, g_ne, g_R, g_O, g_IR, g_IO, g_RO, g_OO, g_OR, g_RRe, g_RRn])
              · (try simp (disch := omega) only [g_eq, g_ne, g_R, g_O, g_IR, g_IO, g_RO, g_OO, g_OR, g_RRe, g_RRn])
              · (try simp (disch := omega) only [g_eq, g_ne, g_R, g_O, g_IR, g_IO, g_RO, g_OO, g_OR, g_RRe, g_RRn]); rw [z1 _ (by omega) (by omega)]
              · (try simp (disch := omega) only [g_eq, g_ne, g_R, g_O, g_IR, g_IO, g_RO, g_OO, g_OR, g_RRe, g_RRn]); rw [z1 _ (by omega) (by omega)]
              · (try simp (disch := omega) only [g_eq, g_ne, g_R, g_O, g_IR, g_IO, g_RO, g_OO, g_OR, g_RRe, g_RRn])
              · (try simp (disch := omega) only [g_eq, g_ne, g_R, g_O, g_IR, g_IO, g_RO, g_OO, g_OR, g_RRe, g_RRn]); rw [z1 _ (by omega) (by omega)]
              · (try simp (disch := omega) only [g_eq, g_ne, g_R, g_O, g_IR, g_IO, g_RO, g_OO, g_OR, g_RRe, g_RRn])
              · (try simp (disch := omega) only [g_eq, g_ne, g_R, g_O, g_IR, g_IO, g_RO, g_OO, g_OR, g_RRe, g_RRn]); rw [z1 _ (by omega) (by omega)]
              · (try simp (disch := omega) only [g_eq, g_ne, g_R, g_O, g_IR, g_IO, g_RO, g_OO, g_OR, g_RRe, g_RRn]); rw [z1 _ (by omega) (by omega)]
              · intro i; (try simp (disch := omega) only [g_eq, g_ne, g_R, g_O, g_IR, g_IO, g_RO, g_OO, g_OR, g_RRe, g_RRn]); rw [l0]; intro x; omega
              · intro i; (try simp (disch := omega) only [g_eq, g_ne, g_R, g_O, g_IR, g_IO, g_RO, g_OO, g_OR, g_RRe, g_RRn]); rw [l0]; intro x; omega
            · have := pn j (by omega)
              refine (B.row j (by omega)).to (by (intros; first | rfl | ((try simp (disch := omega) only [g_eq, g_ne, g_R, g_O, g_IR, g_IO, g_RO, g_OO, g_OR, g_RRe, g_RRn]); done) | fail)) ?_ (B.ok j (by omega))
              intro f hf
              (try simp (disch := omega) only [g_eq, g_ne, g_R, g_O, g_IR, g_IO, g_RO, g_OO, g_OR, g_RRe, g_RRn])
              rw [z2 _ (by omega)]; (try simp (disch := omega) only [g_eq, g_ne, g_R, g_O, g_IR, g_IO, g_RO, g_OO, g_OR, g_RRe, g_RRn])
          · intro j hj
            (try simp (disch := omega) only [g_eq, g_ne, g_R, g_O, g_IR, g_IO, g_RO, g_OO, g_OR, g_RRe, g_RRn])
            by_cases q : j = N
            · subst q
              rw [hp]
              refine rOk.mk ?_ ?_ ?_ ?_ ?_ ?_ ?_ ?_ ?_ ?_ ?_ ?_
              · (try simp (disch := omega) only [g_eq, g_ne, g_R, g_O, g_IR, g_IO, g_RO, g_OO, g_OR, g_RRe, g_RRn]); omega
              · (try simp (disch := omega) only [g_eq, g_ne, g_R, g_O, g_IR, g_IO, g_RO, g_OO, g_OR, g_RRe, g_RRn]); omega
              · (try simp (disch := omega) only [g_eq, g_ne, g_R, g_O, g_IR, g_IO, g_RO, g_OO, g_OR, g_RRe, g_RRn]); decide
              · (try simp (disch := omega) only [g_eq, g_ne, g_R, g_O, g_IR, g_IO, g_RO, g_OO, g_OR, g_RRe, g_RRn]); decide
              · (try simp (disch := omega) only [g_eq, g_ne, g_R, g_O, g_IR, g_IO, g_RO, g_OO, g_OR, g_RRe, g_RRn]); decide
              · (try simp (disch := omega) only [g_eq, g_ne, g_R, g_O, g_IR, g_IO, g_RO, g_OO, g_OR, g_RRe, g_RRn]); decide
              · (try simp (disch := omega) only [g_eq, g_ne, g_R, g_O, g_IR, g_IO, g_RO, g_OO, g_OR, g_RRe, g_RRn]); left; exact ⟨trivial, by decide⟩
              · (try simp (disch := omega) only [g_eq, g_ne, g_R, g_O, g_IR, g_IO, g_RO, g_OO, g_OR, g_RRe, g_RRn]); left; trivial
              · (try simp (disch := omega) only [g_eq, g_ne, g_R, g_O, g_IR, g_IO, g_RO, g_OO, g_OR, g_RRe, g_RRn]); decide
              · (try simp (disch := omega) only [g_eq, g_ne, g_R, g_O, g_IR, g_IO, g_RO, g_OO, g_OR, g_RRe, g_RRn]); rw [l0]; omega
              · (try simp (disch := omega) only [g_eq, g_ne, g_R, g_O, g_IR, g_IO, g_RO, g_OO, g_OR, g_RRe, g_RRn]); rw [l0]; omega
              · (try simp (disch := omega) only [g_eq, g_ne, g_R, g_O, g_IR, g_IO, g_RO, g_OO, g_OR, g_RRe, g_RRn]); intro _; trivial
            · have := pn j (by omega)
              exact (B.ok j (by omega)).to (by (intros; first | rfl | ((try simp (disch := omega) only [g_eq, g_ne, g_R, g_O, g_IR, g_IO, g_RO, g_OO, g_OR, g_RRe, g_RRn]); done) | fail))
          · intro j hj
            (try simp (disch := omega) only [g_eq, g_ne, g_R, g_O, g_IR, g_IO, g_RO, g_OO, g_OR, g_RRe, g_RRn])
            by_cases q : j + 1 = N
            · have := pn j (by omega)
              rw [q, hp]
              (try simp (disch := omega) only [g_eq, g_ne, g_R, g_O, g_IR, g_IO, g_RO, g_OO, g_OR, g_RRe, g_RRn])
              rw [l0]
              rcases can with x | x
              · omega
              · rw [show N - 1 = j by omega] at x; omega
            · have := pn j (by omega)
              have := pn (j + 1) (by omega)
              (try simp (disch := omega) only [g_eq, g_ne, g_R, g_O, g_IR, g_IO, g_RO, g_OO, g_OR, g_RRe, g_RRn]); exact B.gap j (by omega)
        · have u : ∀ j, j < N → rU (f_pI (f_pI (f_pI (f_pI (f_pI (f_pI (f_pI (f_pI (f_pI (f_pI (f_pI c 11 0 2 (f_gI c 11 0 2 + 1)) 13 p 2 (f_gI c 11 0 2 + 1)) 13 p 3 a) 13 p 4 0) 13 p 8 0) 14 p 1 0) 14 (p + 16) 1 0) 13 p 5 (-1)) 13 p 6 0) 13 p 7 (-1)) 11 0 1 (nI (N + 1))) j = rU c j := fun j hj => by
            have := pn j hj
            unfold rU; (try simp (disch := omega) only [g_eq, g_ne, g_R, g_O, g_IR, g_IO, g_RO, g_OO, g_OR, g_RRe, g_RRn])
          have u1 : rU (f_pI (f_pI (f_pI (f_pI (f_pI (f_pI (f_pI (f_pI (f_pI (f_pI (f_pI c 11 0 2 (f_gI c 11 0 2 + 1)) 13 p 2 (f_gI c 11 0 2 + 1)) 13 p 3 a) 13 p 4 0) 13 p 8 0) 14 p 1 0) 14 (p + 16) 1 0) 13 p 5 (-1)) 13 p 6 0) 13 p 7 (-1)) 11 0 1 (nI (N + 1))) N ≤ 1 := by unfold rU; split <;> omega
          have pe := mon.pe
          refine rMon.mk ?_ ?_ ?_ ?_ ?_
          · (try simp (disch := omega) only [g_eq, g_ne, g_R, g_O, g_IR, g_IO, g_RO, g_OO, g_OR, g_RRe, g_RRn]); exact mon.p0
          · unfold q_sm
            rw [q_sm_congr N u]
            (try simp (disch := omega) only [g_eq, g_ne, g_R, g_O, g_IR, g_IO, g_RO, g_OO, g_OR, g_RRe, g_RRn])
            omega
          · (try simp (disch := omega) only [g_eq, g_ne, g_R, g_O, g_IR, g_IO, g_RO, g_OO, g_OR, g_RRe, g_RRn]); omega
          · (try simp (disch := omega) only [g_eq, g_ne, g_R, g_O, g_IR, g_IO, g_RO, g_OO, g_OR, g_RRe, g_RRn]); exact mon.c0
          · (try simp (disch := omega) only [g_eq, g_ne, g_R, g_O, g_IR, g_IO, g_RO, g_OO, g_OR, g_RRe, g_RRn]); exact mon.cp
        · intro x j hj
          (try simp (disch := omega) only [g_eq, g_ne, g_R, g_O, g_IR, g_IO, g_RO, g_OO, g_OR, g_RRe, g_RRn])
          by_cases q : j = N
          · subst q
            rw [hp]; (try simp (disch := omega) only [g_eq, g_ne, g_R, g_O, g_IR, g_IO, g_RO, g_OO, g_OR, g_RRe, g_RRn]); rw [l0]; omega
          · have := pn j (by omega)
            (try simp (disch := omega) only [g_eq, g_ne, g_R, g_O, g_IR, g_IO, g_RO, g_OO, g_OR, g_RRe, g_RRn]); exact ht.r110 q1 j (by omega)
        · intro j hj
          (try simp (disch := omega) only [g_eq, g_ne, g_R, g_O, g_IR, g_IO, g_RO, g_OO, g_OR, g_RRe, g_RRn])
          by_cases q : j = N
          · subst q
            rw [hp]; (try simp (disch := omega) only [g_eq, g_ne, g_R, g_O, g_IR, g_IO, g_RO, g_OO, g_OR, g_RRe, g_RRn]); intro _; trivial
          · have := pn j (by omega)
            (try simp (disch := omega) only [g_eq, g_ne, g_R, g_O, g_IR, g_IO, g_RO, g_OO, g_OR, g_RRe, g_RRn]); exact ht.unp j (by omega)
      · exact ((((((((((fC.rfl.put (by decide)).put (by decide)).put (by decide)).put (by decide)).put (by decide)).put (by decide)).put (by decide)).put (by decide)).put (by decide)).put (by decide)).put (by decide)
      · exact ((((((((fM.rfl.put (by decide)).put (by decide)).trans z4).put (by decide)).put (by decide)).put (by decide)).put (by decide)).put (by decide))
    · have N0 : N ≠ 0 := fun x => can (Or.inl x)
      have r := (B.ok (N - 1) (by omega)).rear
      have row := B.row (N - 1) (by omega)
      have no : ¬ (4 : Int32) ≤ f_gI c 13 (f_gR c (N - 1)) 4 - f_gI c 13 (f_gR c (N - 1)) 3 := by
        rw [Int32.le_iff_toInt_le, r, show (4 : Int32).toInt = 4 from rfl]; omega
      refine qI_yes (c' := c) (m' := f_pI m 30 0 25 0) (N' := N) (e' := e) (K' := K) (v := 0) (x := 0) ?_ ?_ rfl (by (try simp (disch := omega) only [g_eq, g_ne, g_R, g_O, g_IR, g_IO, g_RO, g_OO, g_OR, g_RRe, g_RRn])) (by omega) (by omega) h.thr fC.rfl (fM.rfl.put (by decide))
      · simp only [F_l_enter, F_b_enter, c_on q1, q_bl, c_wi, q_bd, w, c_rq1]
        unfold F_be_putIn
        rw [B.cnt, if_pos (by rw [q_lt (by omega) (by omega)]; omega), if_neg (by rw [show (0 : Int32) = nI 0 from rfl, q_le (by omega) (by omega)]; omega), q_np (by omega), q_gd (q_ib (by omega) (by decide)), q_ix (by omega), q_gd' (B.rlt _ (by omega))]
        simp only [F_co_rear, q_bd]
        rw [if_neg no]; rfl
      · simp only [F_m_enter, q2, m_f0, q_bd, m_wi, w, if_true, b_m_enter_28, one_ne, if_false, g_pp]
        rw [B.siz, if_neg (by rw [show (0 : Int32) = nI 0 from rfl, q_le (by omega) (by omega)]; omega), q_np (by omega), m_rear (by omega), q_bd, ← row.fro, ← row.len, if_neg no]
  · refine qI_no h (t := 1) (by decide) ?_ ?_
    · simp only [F_l_enter, F_b_enter, c_off q1, q_br]; rfl
    · simp only [F_m_enter, q2, m_f1, q_bd, one_ne, if_false]
