set_option linter.unusedVariables false
set_option linter.unusedSimpArgs false
theorem q_255 (i : Nat) (h : ¬ i < 8) : (255#32).getLsbD i = false := by
  rw [BitVec.getLsbD_ofNat, Nat.testBit_lt_two_pow, Bool.and_false]
  exact Nat.lt_of_lt_of_le (by decide : 255 < 2 ^ 8) (Nat.pow_le_pow_right (by decide) (by omega))
/-- the same byte, whether the shift fills with zeros or with the sign -/
theorem q_byte (x : BitVec 32) (n : Nat) (h : n ≤ 24) : (x >>> n) &&& 255#32 = (x.sshiftRight n) &&& 255#32 := by
  apply BitVec.eq_of_getLsbD_eq
  intro i hi
  rw [BitVec.getLsbD_and, BitVec.getLsbD_and, BitVec.getLsbD_ushiftRight, BitVec.getLsbD_sshiftRight]
  by_cases c : i < 8
  · rw [if_pos (by omega)]
    simp [show ¬ 32 ≤ i by omega]
  · rw [q_255 i c]; simp
def q_bc (y : Int32) (j : Nat) : Int32 := (f_us y (24 - ((nI j - nI j / 4 * 4) * 8))) &&& 255
def q_bm (y : Int32) (j : Nat) : Int32 := (y >>> ((24 - (8 * (nI j - nI j / 4 * 4))) &&& 31)) &&& 255
theorem q_bcm (y : Int32) (j : Nat) (h : j < 8) : q_bc y j = q_bm y j := by
  have : j = 0 ∨ j = 1 ∨ j = 2 ∨ j = 3 ∨ j = 4 ∨ j = 5 ∨ j = 6 ∨ j = 7 := by omega
  rcases this with rfl | rfl | rfl | rfl | rfl | rfl | rfl | rfl
  · exact Int32.toBitVec_inj.mp (q_byte y.toBitVec 24 (by decide))
  · exact Int32.toBitVec_inj.mp (q_byte y.toBitVec 16 (by decide))
  · exact Int32.toBitVec_inj.mp (q_byte y.toBitVec 8 (by decide))
  · exact Int32.toBitVec_inj.mp (q_byte y.toBitVec 0 (by decide))
  · exact Int32.toBitVec_inj.mp (q_byte y.toBitVec 24 (by decide))
  · exact Int32.toBitVec_inj.mp (q_byte y.toBitVec 16 (by decide))
  · exact Int32.toBitVec_inj.mp (q_byte y.toBitVec 8 (by decide))
  · exact Int32.toBitVec_inj.mp (q_byte y.toBitVec 0 (by decide))
theorem s_setC {A : Nat} (hA : A < 8) (x y d : Int32) (c : fST) : ∃ s, F_ca_setContour (nI A) x y d c = some ((), f_pI s 10 0 A d) ∧ (∀ k, k < 8 → f_gI s 9 A k = q_bc (if 4 ≤ nI k then y else x) k) ∧ (∀ k i j, (k ≠ 9 ∨ i ≠ A) → f_gI s k i j = f_gI c k i j) ∧ (∀ j, f_gR s j = f_gR c j) ∧ fC c s := by
  refine Exists.elim (q_loop0 (body := b_ca_setContour_3) (fun j s => (nI A, x, y, d, nI j, s)) 8 (fun n s => (∀ k, k < n → f_gI s 9 A k = q_bc (if 4 ≤ nI k then y else x) k) ∧ (∀ k i j, (k ≠ 9 ∨ i ≠ A) → f_gI s k i j = f_gI c k i j) ∧ (∀ j, f_gR s j = f_gR c j) ∧ fC c s) (fun s => some ((), f_pI s 10 0 A d)) (by omega) ?_ ?_ c ⟨by omega, by (intros; first | rfl | ((try simp (disch := omega) only [g_eq, g_ne, g_R, g_O, g_IR, g_IO, g_RO, g_OO, g_OR, g_RRe, g_RRn]); done) | fail), by (intros; first | rfl | ((try simp (disch := omega) only [g_eq, g_ne, g_R, g_O, g_IR, g_IO, g_RO, g_OO, g_OR, g_RRe, g_RRn]); done) | fail), fC.rfl⟩) ?_
  · rintro k s ⟨h1, h2, h3, h4⟩
    simp only [b_ca_setContour_3, show (8 : Int32) ≤ nI 8 from Int32.le_refl _, if_true, q_gd (q_ib hA (by decide)), q_ix (show A < 2147483648 by omega)]
  · rintro j s hj ⟨h1, h2, h3, h4⟩
    refine ⟨f_pI s 9 A j (q_bc (if 4 ≤ nI j then y else x) j), ?_, ?_, ?_, h3, h4.put (by decide)⟩
    · intro k
      simp only [b_ca_setContour_3]
      rw [if_neg (by rw [show (8 : Int32) = nI 8 from rfl, q_le (by omega) (by omega)]; omega)]
      unfold b_ca_setContour_21
      rw [q_gd (q_ib hA (by decide)), q_gd (q_ib hj (by decide)), q_gd (q_ib hA (by decide)), q_gd (q_ib hj (by decide)), q_ix (by omega), q_ix (by omega), q_n1]
      split <;> rfl
    · intro k hk
      by_cases q : k = j
      · subst q; (try simp (disch := omega) only [g_eq, g_ne, g_R, g_O, g_IR, g_IO, g_RO, g_OO, g_OR, g_RRe, g_RRn])
      · (try simp (disch := omega) only [g_eq, g_ne, g_R, g_O, g_IR, g_IO, g_RO, g_OO, g_OR, g_RRe, g_RRn]); exact h1 k (by omega)
    · intro k i f q; (try simp (disch := omega) only [g_eq, g_ne, g_R, g_O, g_IR, g_IO, g_RO, g_OO, g_OR, g_RRe, g_RRn]); exact h2 k i f q
  · rintro s ⟨⟨h1, h2, h3, h4⟩, h5⟩
    exact ⟨s, h5, h1, h2, h3, h4⟩
theorem s_setM {A : Nat} (hA : A < 8) (x y d : Int32) (m : fST) : ∃ s, f_it b_m_contour_51 2000 (nI A, x, y, d, 0, m) = some ((), f_pI s 32 0 A d) ∧ (∀ k, k < 8 → f_gI s 31 0 (8 * A + k) = q_bm (if 4 ≤ nI k then y else x) k) ∧ (∀ k i j, (k ≠ 31 ∨ j < 8 * A ∨ 8 * A + 8 ≤ j) → f_gI s k i j = f_gI m k i j) ∧ fM m s := by
  refine Exists.elim (q_loop0 (body := b_m_contour_51) (fun j s => (nI A, x, y, d, nI j, s)) 8 (fun n s => (∀ k, k < n → f_gI s 31 0 (8 * A + k) = q_bm (if 4 ≤ nI k then y else x) k) ∧ (∀ k i j, (k ≠ 31 ∨ j < 8 * A ∨ 8 * A + 8 ≤ j) → f_gI s k i j = f_gI m k i j) ∧ fM m s) (fun s => some ((), f_pI s 32 0 A d)) (by omega) ?_ ?_ m ⟨by omega, by (intros; first | rfl | ((try simp (disch := omega) only [g_eq, g_ne, g_R, g_O, g_IR, g_IO, g_RO, g_OO, g_OR, g_RRe, g_RRn]); done) | fail), fM.rfl⟩) ?_
  · rintro k s ⟨h1, h2, h4⟩
    simp only [b_m_contour_51, show (8 : Int32) ≤ nI 8 from Int32.le_refl _, if_true, q_gd (q_ib hA (by decide)), q_ix (show A < 2147483648 by omega)]
  · rintro j s hj ⟨h1, h2, h4⟩
    refine ⟨f_pI s 31 0 (8 * A + j) (q_bm (if 4 ≤ nI j then y else x) j), ?_, ?_, ?_, h4.put (by decide)⟩
    · intro k
      have e : (8 : Int32) * nI A + nI j = nI (8 * A + j) := by rw [show (8 : Int32) = nI 8 from rfl, q_nm, q_na]
      simp only [b_m_contour_51]
      rw [if_neg (by rw [show (8 : Int32) = nI 8 from rfl, q_le (by omega) (by omega)]; omega)]
      unfold b_m_contour_80
      rw [e, q_gd (q_ib (show 8 * A + j < 64 by omega) (by decide)), q_gd (q_ib (show 8 * A + j < 64 by omega) (by decide)), q_ix (by omega), q_n1]
      split <;> rfl
    · intro k hk
      by_cases q : k = j
      · subst q; (try simp (disch := omega) only [g_eq, g_ne, g_R, g_O, g_IR, g_IO, g_RO, g_OO, g_OR, g_RRe, g_RRn])
      · (try simp (disch := omega) only [g_eq, g_ne, g_R, g_O, g_IR, g_IO, g_RO, g_OO, g_OR, g_RRe, g_RRn]); exact h1 k (by omega)
    · intro k i f q; (try simp (disch := omega) only [g_eq, g_ne, g_R, g_O, g_IR, g_IO, g_RO, g_OO, g_OR, g_RRe, g_RRn]); exact h2 k i f q
  · rintro s ⟨⟨h1, h2, h4⟩, h5⟩
    exact ⟨s, h5, h1, h2, h4⟩
theorem o_contour (a x y d : Int32) : qOk aU (F_l_contour a x y d) (F_m_contour a x y d) := by
  apply qOk.mk
  intro e K N c m he hK h
  rcases h.all.jou.on with ⟨q1, q2⟩ | ⟨q1, q2⟩
  · have h1 : F_b_isIndex a 8 c = some (q_w a 0 7, c) := c_ii rfl
    rcases q_w01 a 0 7 with w | ⟨w, w1, w2⟩
    · refine qU_no h (t := 2) ?_ ?_
      · simp only [F_l_contour, F_b_contour, c_on q1, q_bl, h1, q_bd, w, c_rq0, q_br]; rfl
      · simp only [F_m_contour, q2, m_f0, q_bd, m_wi, w, if_true, b_m_contour_35, b_m_contour_40, m_f1, one_ne, if_false, g_pp]
    rcases q_w01 d 0 2040 with v | ⟨v, v1, v2⟩
    · refine qU_no h (t := 2) ?_ ?_
      · simp only [F_l_contour, F_b_contour, c_on q1, q_bl, h1, q_bd, w, c_rq1, c_wi, v, c_rq0, q_br]; rfl
      · simp only [F_m_contour, q2, m_f0, q_bd, m_wi, w, v, if_true, b_m_contour_35, b_m_contour_40, m_f1, one_ne, if_false, g_pp]
    have w1 : 0 ≤ a.toInt := w1
    have w2 : a.toInt ≤ 7 := w2
    have aA := q_ex w1
    have A8 : a.toInt.toNat < 8 := by omega
    generalize a.toInt.toNat = A at aA A8
    subst aA
    have ht := h.thr (v := 0)
    obtain ⟨c', k1, k2, k3, k4, k5⟩ := s_setC A8 x y d c
    obtain ⟨m', l1, l2, l3, l4⟩ := s_setM A8 x y d (f_pI m 30 0 25 0)
    refine qU_yes (c' := f_pI c' 10 0 A d) (m' := f_pI m' 32 0 A d) (N' := N) (e' := e) (K' := K) ?_ ?_ ?_ (by omega) (by omega) ?_ (k5.put (by decide)) (((fM.rfl.put (by decide)).trans l4).put (by decide))
    · simp only [F_l_contour, F_b_contour, c_on q1, q_bl, h1, q_bd, w, c_rq1, c_wi, v, k1]
    · simp only [F_m_contour, q2, m_f0, q_bd, m_wi, w, v, if_true, b_m_contour_40, one_ne, if_false, g_pp, l1]
    · (try simp (disch := omega) only [g_eq, g_ne, g_R, g_O, g_IR, g_IO, g_RO, g_OO, g_OR, g_RRe, g_RRn]); rw [l3 _ _ _ (by omega)]; (try simp (disch := omega) only [g_eq, g_ne, g_R, g_O, g_IR, g_IO, g_RO, g_OO, g_OR, g_RRe, g_RRn])
    · obtain ⟨e5, K9, cat, belt, bins, ⟨V, vou⟩, jou, ⟨t, r, lat⟩, tot, mon⟩ := ht.all
      have hc : ∀ k i j, k ≠ 9 → f_gI c' k i j = f_gI c k i j := fun k i j q => k3 k i j (Or.inl q)
      have hm : ∀ k i j, k ≠ 31 → f_gI m' k i j = f_gI (f_pI m 30 0 25 0) k i j := fun k i j q => l3 k i j (Or.inl q)
      have belt : rBelt N c' m' := belt.to (fun k i j _ _ => hc _ _ _ (by omega)) k4 (fun j => hm _ _ _ (by omega)) (hm _ _ _ (by omega)) (hm _ _ _ (by omega))
      have bins : rBins c' m' := bins.to (fun k i j _ _ => hc _ _ _ (by omega)) (fun k i j _ _ => hm _ _ _ (by omega))
      have vou : rVou V e c' m' := vou.to (fun k i j _ _ => hc _ _ _ (by omega)) (fun k i j _ _ => hm _ _ _ (by omega)) (hm _ _ _ (by omega)) (hm _ _ _ (by omega)) (hm _ _ _ (by omega))
      have jou : rJou c' m' := jou.to (fun j => hc _ _ _ (by omega)) (hm _ _ _ (by omega)) (hm _ _ _ (by omega)) (hm _ _ _ (by omega))
      have lat : rLat t r K c' m' := lat.to (Nat.le_refl _) (fun k i j _ _ => hc _ _ _ (by omega)) (fun j => hm _ _ _ (by omega)) (hm _ _ _ (by omega))
      have tot : rTot c' m' := tot.to (fun j _ _ => hc _ _ _ (by omega)) (fun j => hc _ _ _ (by omega)) (fun j => hm _ _ _ (by omega)) (hm _ _ _ (by omega)) (hm _ _ _ (by omega)) (hm _ _ _ (by omega)) (hm _ _ _ (by omega)) (hm _ _ _ (by omega))
      have mon : rMon N e c' := mon.to (Nat.le_refl _) (fun j => hc _ _ _ (by omega)) (fun k i j _ _ => hc _ _ _ (by omega)) k4
      refine rRel.mk (rAll.mk e5 K9 ?_ ?_ ?_ ?_ ?_ ?_ ?_ ?_) ?_ ?_
      any_goals (first | exact rCat.to ‹_› (by (intros; first | rfl | ((try simp (disch := omega) only [g_eq, g_ne, g_R, g_O, g_IR, g_IO, g_RO, g_OO, g_OR, g_RRe, g_RRn]); done) | fail)) (by (intros; first | rfl | ((try simp (disch := omega) only [g_eq, g_ne, g_R, g_O, g_IR, g_IO, g_RO, g_OO, g_OR, g_RRe, g_RRn]); done) | fail)) | exact rBelt.to ‹_› (by (intros; first | rfl | ((try simp (disch := omega) only [g_eq, g_ne, g_R, g_O, g_IR, g_IO, g_RO, g_OO, g_OR, g_RRe, g_RRn]); done) | fail)) (by (intros; first | rfl | ((try simp (disch := omega) only [g_eq, g_ne, g_R, g_O, g_IR, g_IO, g_RO, g_OO, g_OR, g_RRe, g_RRn]); done) | fail)) (by (intros; first | rfl | ((try simp (disch := omega) only [g_eq, g_ne, g_R, g_O, g_IR, g_IO, g_RO, g_OO, g_OR, g_RRe, g_RRn]); done) | fail)) (by (intros; first | rfl | ((try simp (disch := omega) only [g_eq, g_ne, g_R, g_O, g_IR, g_IO, g_RO, g_OO, g_OR, g_RRe, g_RRn]); done) | fail)) (by (intros; first | rfl | ((try simp (disch := omega) only [g_eq, g_ne, g_R, g_O, g_IR, g_IO, g_RO, g_OO, g_OR, g_RRe, g_RRn]); done) | fail)) | exact rBins.to ‹_› (by (intros; first | rfl | ((try simp (disch := omega) only [g_eq, g_ne, g_R, g_O, g_IR, g_IO, g_RO, g_OO, g_OR, g_RRe, g_RRn]); done) | fail)) (by (intros; first | rfl | ((try simp (disch := omega) only [g_eq, g_ne, g_R, g_O, g_IR, g_IO, g_RO, g_OO, g_OR, g_RRe, g_RRn]); done) | fail)) | exact ⟨_, rVou.to ‹_› (by (intros; first | rfl | ((try simp (disch := omega) only [g_eq, g_ne, g_R, g_O, g_IR, g_IO, g_RO, g_OO, g_OR, g_RRe, g_RRn]); done) | fail)) (by (intros; first | rfl | ((try simp (disch := omega) only [g_eq, g_ne, g_R, g_O, g_IR, g_IO, g_RO, g_OO, g_OR, g_RRe, g_RRn]); done) | fail)) (by (intros; first | rfl | ((try simp (disch := omega) only [g_eq, g_ne, g_R, g_O, g_IR, g_IO, g_RO, g_OO, g_OR, g_RRe, g_RRn]); done) | fail)) (by (intros; first | rfl | ((try simp (disch := omega) only [g_eq, g_ne, g_R, g_O, g_IR, g_IO, g_RO, g_OO, g_OR, g_RRe, g_RRn]); done) | fail)) (by (intros; first | rfl | ((try simp (disch := omega) only [g_eq, g_ne, g_R, g_O, g_IR, g_IO, g_RO, g_OO, g_OR, g_RRe, g_RRn]); done) | fail))⟩ | exact rJou.to ‹_› (by (intros; first | rfl | ((try simp (disch := omega) only [g_eq, g_ne, g_R, g_O, g_IR, g_IO, g_RO, g_OO, g_OR, g_RRe, g_RRn]); done) | fail)) (by (intros; first | rfl | ((try simp (disch := omega) only [g_eq, g_ne, g_R, g_O, g_IR, g_IO, g_RO, g_OO, g_OR, g_RRe, g_RRn]); done) | fail)) (by (intros; first | rfl | ((try simp (disch := omega) only [g_eq, g_ne, g_R, g_O, g_IR, g_IO, g_RO, g_OO, g_OR, g_RRe, g_RRn]); done) | fail)) (by (intros; first | rfl | ((try simp (disch := omega) only [g_eq, g_ne, g_R, g_O, g_IR, g_IO, g_RO, g_OO, g_OR, g_RRe, g_RRn]); done) | fail)) | exact ⟨_, _, rLat.to ‹_› (Nat.le_refl _) (by (intros; first | rfl | ((try simp (disch := omega) only [g_eq, g_ne, g_R, g_O, g_IR, g_IO, g_RO, g_OO, g_OR, g_RRe, g_RRn]); done) | fail)) (by (intros; first | rfl | ((try simp (disch := omega) only [g_eq, g_ne, g_R, g_O, g_IR, g_IO, g_RO, g_OO, g_OR, g_RRe, g_RRn]); done) | fail)) (by (intros; first | rfl | ((try simp (disch := omega) only [g_eq, g_ne, g_R, g_O, g_IR, g_IO, g_RO, g_OO, g_OR, g_RRe, g_RRn]); done) | fail))⟩ | exact rTot.to ‹_› (by (intros; first | rfl | ((try simp (disch := omega) only [g_eq, g_ne, g_R, g_O, g_IR, g_IO, g_RO, g_OO, g_OR, g_RRe, g_RRn]); done) | fail)) (by (intros; first | rfl | ((try simp (disch := omega) only [g_eq, g_ne, g_R, g_O, g_IR, g_IO, g_RO, g_OO, g_OR, g_RRe, g_RRn]); done) | fail)) (by (intros; first | rfl | ((try simp (disch := omega) only [g_eq, g_ne, g_R, g_O, g_IR, g_IO, g_RO, g_OO, g_OR, g_RRe, g_RRn]); done) | fail)) (by (intros; first | rfl | ((try simp (disch := omega) only [g_eq, g_ne, g_R, g_O, g_IR, g_IO, g_RO, g_OO, g_OR, g_RRe, g_RRn]); done) | fail)) (by (intros; first | rfl | ((try simp (disch := omega) only [g_eq, g_ne, g_R, g_O, g_IR, g_IO, g_RO, g_OO, g_OR, g_RRe, g_RRn]); done) | fail)) (by (intros; first | rfl | ((try simp (disch := omega) only [g_eq, g_ne, g_R, g_O, g_IR, g_IO, g_RO, g_OO, g_OR, g_RRe, g_RRn]); done) | fail)) (by (intros; first | rfl | ((try simp (disch := omega) only [g_eq, g_ne, g_R, g_O, g_IR, g_IO, g_RO, g_OO, g_OR, g_RRe, g_RRn]); done) | fail)) (by (intros; first | rfl | ((try simp (disch := omega) only [g_eq, g_ne, g_R, g_O, g_IR, g_IO, g_RO, g_OO, g_OR, g_RRe, g_RRn]); done) | fail)) | exact rMon.to ‹_› (Nat.le_refl _) (by (intros; first | rfl | ((try simp (disch := omega) only [g_eq, g_ne, g_R, g_O, g_IR, g_IO, g_RO, g_OO, g_OR, g_RRe, g_RRn]); done) | fail)) (by (intros; first | rfl | ((try simp (disch := omega) only [g_eq, g_ne, g_R, g_O, g_IR, g_IO, g_RO, g_OO, g_OR, g_RRe, g_RRn]); done) | fail)) (by (intros; first | rfl | ((try simp (disch := omega) only [g_eq, g_ne, g_R, g_O, g_IR, g_IO, g_RO, g_OO, g_OR, g_RRe, g_RRn]); done) | fail)) | fail)
      · refine rCat.mk ?_ ?_ ?_ ?_ ?_ ?_ ?_ ?_ ?_ ?_ ?_
        · intro i hi; (try simp (disch := omega) only [g_eq, g_ne, g_R, g_O, g_IR, g_IO, g_RO, g_OO, g_OR, g_RRe, g_RRn]); rw [hc _ _ _ (by omega), hm _ _ _ (by omega)]; exact cat.cod i hi
        · intro i hi; (try simp (disch := omega) only [g_eq, g_ne, g_R, g_O, g_IR, g_IO, g_RO, g_OO, g_OR, g_RRe, g_RRn]); rw [hc _ _ _ (by omega), hm _ _ _ (by omega)]; exact cat.dep i hi
        · intro i hi; (try simp (disch := omega) only [g_eq, g_ne, g_R, g_O, g_IR, g_IO, g_RO, g_OO, g_OR, g_RRe, g_RRn]); rw [hc _ _ _ (by omega), hm _ _ _ (by omega)]; exact cat.bin i hi
        · intro i hi; (try simp (disch := omega) only [g_eq, g_ne, g_R, g_O, g_IR, g_IO, g_RO, g_OO, g_OR, g_RRe, g_RRn]); rw [hc _ _ _ (by omega), hm _ _ _ (by omega)]; exact cat.low i hi
        · intro i hi; (try simp (disch := omega) only [g_eq, g_ne, g_R, g_O, g_IR, g_IO, g_RO, g_OO, g_OR, g_RRe, g_RRn]); rw [hc _ _ _ (by omega), hm _ _ _ (by omega)]; exact cat.hig i hi
        · intro i hi; (try simp (disch := omega) only [g_eq, g_ne, g_R, g_O, g_IR, g_IO, g_RO, g_OO, g_OR, g_RRe, g_RRn]); rw [hc _ _ _ (by omega), hm _ _ _ (by omega)]; exact cat.con i hi
        · intro i j hi hj
          (try simp (disch := omega) only [g_eq, g_ne, g_R, g_O, g_IR, g_IO, g_RO, g_OO, g_OR, g_RRe, g_RRn])
          by_cases q : i = A
          · subst q; rw [k2 j hj, l2 j hj, q_bcm _ _ hj]
          · rw [k3 _ _ _ (Or.inr q), l3 _ _ _ (by omega)]; exact cat.wid i j hi hj
        · intro i hi
          by_cases q : i = A
          · subst q; (try simp (disch := omega) only [g_eq, g_ne, g_R, g_O, g_IR, g_IO, g_RO, g_OO, g_OR, g_RRe, g_RRn])
          · (try simp (disch := omega) only [g_eq, g_ne, g_R, g_O, g_IR, g_IO, g_RO, g_OO, g_OR, g_RRe, g_RRn]); rw [hc _ _ _ (by omega), hm _ _ _ (by omega)]; exact cat.lim i hi
        · intro i hi; (try simp (disch := omega) only [g_eq, g_ne, g_R, g_O, g_IR, g_IO, g_RO, g_OO, g_OR, g_RRe, g_RRn]); rw [hc _ _ _ (by omega)]; exact cat.dok i hi
        · intro i hi; (try simp (disch := omega) only [g_eq, g_ne, g_R, g_O, g_IR, g_IO, g_RO, g_OO, g_OR, g_RRe, g_RRn]); rw [hc _ _ _ (by omega)]; exact cat.bok i hi
        · intro i hi; (try simp (disch := omega) only [g_eq, g_ne, g_R, g_O, g_IR, g_IO, g_RO, g_OO, g_OR, g_RRe, g_RRn]); rw [hc _ _ _ (by omega)]; exact cat.cok i hi
      · (try simp (disch := omega) only [g_eq, g_ne, g_R, g_O, g_IR, g_IO, g_RO, g_OO, g_OR, g_RRe, g_RRn])
        intro _ j hj
        rw [k4, hc _ _ _ (by omega), hc _ _ _ (by omega)]; exact ht.r110 q1 j hj
      · (try simp (disch := omega) only [g_eq, g_ne, g_R, g_O, g_IR, g_IO, g_RO, g_OO, g_OR, g_RRe, g_RRn])
        intro j hj
        rw [k4, hc _ _ _ (by omega), hc _ _ _ (by omega)]; exact ht.unp j hj
  · refine qU_no h (t := 1) ?_ ?_
    · simp only [F_l_contour, F_b_contour, c_off q1, q_br]; rfl
    · simp only [F_m_contour, q2, m_f1, q_bd, one_ne, if_false]
