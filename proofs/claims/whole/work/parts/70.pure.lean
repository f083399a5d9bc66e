set_option linter.unusedVariables false
set_option linter.unusedSimpArgs false
theorem l0 : (0 : Int32).toInt = 0 := rfl
theorem l1 : (1 : Int32).toInt = 1 := rfl
/-- the relation again, where only the journal changed, and it went off -/
theorem rRel.cutoff {e K N : Nat} {c m c' m' : fST} (h : rRel e K N c m) (hA : rAll e K N c' m') (ho : f_gI c' 23 0 2 = 0) (hc : ∀ k i j, k ≠ 23 → f_gI c' k i j = f_gI c k i j) (hr : ∀ j, f_gR c' j = f_gR c j) : rRel e K N c' m' :=
  (rRel.mk hA (fun q => (by rw [ho] at q; cases q)) (fun j hj => by rw [hr, hc _ _ _ (by decide), hc _ _ _ (by decide)]; exact h.unp j hj))
theorem rRel.wrote {e K N : Nat} {c m c' m' : fST} (h : rRel e K N c m) (hon : f_gI c 23 0 2 = 1) (hA : rAll e K N c' m') (hc : ∀ k i j, k ≠ 23 → f_gI c' k i j = f_gI c k i j) (hr : ∀ j, f_gR c' j = f_gR c j) : rRel e K N c' m' :=
  (rRel.mk hA (fun q j hj => by rw [hr, hc _ _ _ (by decide), hc _ _ _ (by decide)]; exact h.r110 hon j hj) (fun j hj => by rw [hr, hc _ _ _ (by decide), hc _ _ _ (by decide)]; exact h.unp j hj))
theorem o_give : qOk aI F_l_give F_m_give := by
  apply qOk.mk
  intro e K N c m he hK h
  rcases h.all.jou.on with ⟨q1, q2⟩ | ⟨q1, q2⟩
  · by_cases z0 : f_gI c 0 0 7 = 0
    · have z1 : f_gI (f_pI m 30 0 25 0) 30 0 8 = 0 := by (try simp (disch := omega) only [g_eq, g_ne, g_R, g_O, g_IR, g_IO, g_RO, g_OO, g_OR, g_RRe, g_RRn]); rw [← h.all.tot.cre]; exact z0
      refine qI_yes (c' := c) (m' := f_pI m 30 0 25 0) (N' := N) (e' := e) (K' := K) (v := 0) (x := 0) ?_ ?_ rfl (by (try simp (disch := omega) only [g_eq, g_ne, g_R, g_O, g_IR, g_IO, g_RO, g_OO, g_OR, g_RRe, g_RRn])) (by omega) (by omega) h.thr fC.rfl (fM.rfl.put (by decide))
      · simp only [F_l_give, F_b_give, c_on q1, q_bl, z0, if_true]; rfl
      · simp only [F_m_give, q2, m_f0, q_bd, if_true, z1]
    · have z1 : ¬ f_gI (f_pI m 30 0 25 0) 30 0 8 = 0 := by (try simp (disch := omega) only [g_eq, g_ne, g_R, g_O, g_IR, g_IO, g_RO, g_OO, g_OR, g_RRe, g_RRn]); rw [← h.all.tot.cre]; exact z0
      have ht := h.thr (v := 0)
      rcases s_write ht.all q1 with ⟨c', m', h1, h2, h3, h4, h5, h6, h7, h8, h9⟩ | ⟨c', m', h1, h2, h3, h4, h5, h6, h7, h8, h9⟩
      · refine qI_yes (c' := c') (m' := m') (N' := N) (e' := e) (K' := K) (v := 0) (x := 0) ?_ ?_ rfl ?_ (by omega) (by omega) (ht.cutoff h3 h4 h5 h6) h7 ((fM.rfl.put (by decide)).trans h8)
        · simp only [F_l_give, F_b_give, c_on q1, q_bl, z0, if_false, h1, q_bd, if_true]; rfl
        · simp only [F_m_give, q2, m_f0, q_bd, if_true, z1, if_false, h2]
        · rw [h9]; (try simp (disch := omega) only [g_eq, g_ne, g_R, g_O, g_IR, g_IO, g_RO, g_OO, g_OR, g_RRe, g_RRn])
      · have k7 : f_gI c' 0 0 7 = f_gI m' 30 0 8 := h3.tot.cre
        refine qI_yes (c' := f_pI (f_pI c' 0 0 10 (f_gI c' 0 0 10 + f_gI c' 0 0 7)) 0 0 7 0) (m' := f_pI (f_pI m' 30 0 24 (f_gI m' 30 0 24 + f_gI m' 30 0 8)) 30 0 8 0) (N' := N) (e' := e) (K' := K) (v := f_gI m' 30 0 8) (x := (f_gI c' 0 0 7).toInt64) ?_ ?_ (by rw [k7]) ?_ (by omega) (by omega) ?_ ((h7.put (by decide)).put (by decide)) ((((fM.rfl.put (by decide)).trans h8).put (by decide)).put (by decide))
        · simp only [F_l_give, F_b_give, c_on q1, q_bl, z0, if_false, h1, q_bd, one_ne]
        · simp only [F_m_give, q2, m_f0, q_bd, if_true, z1, if_false, h2, one_ne]
        · (try simp (disch := omega) only [g_eq, g_ne, g_R, g_O, g_IR, g_IO, g_RO, g_OO, g_OR, g_RRe, g_RRn]); rw [h9 _ _ _ (by omega)]; (try simp (disch := omega) only [g_eq, g_ne, g_R, g_O, g_IR, g_IO, g_RO, g_OO, g_OR, g_RRe, g_RRn])
        · have hw := ht.wrote q1 h3 h5 h6
          obtain ⟨e5, K9, cat, belt, bins, ⟨V, vou⟩, jou, ⟨t, s, lat⟩, tot, mon⟩ := hw.all
          refine rRel.mk (rAll.mk e5 K9 ?_ ?_ ?_ ?_ ?_ ?_ ?_ ?_) ?_ ?_
          any_goals (first | exact rCat.to ‹_› (by (intros; first | rfl | ((try simp (disch := omega) only [g_eq, g_ne, g_R, g_O, g_IR, g_IO, g_RO, g_OO, g_OR, g_RRe, g_RRn]); done) | fail)) (by (intros; first | rfl | ((try simp (disch := omega) only [g_eq, g_ne, g_R, g_O, g_IR, g_IO, g_RO, g_OO, g_OR, g_RRe, g_RRn]); done) | fail)) | exact rBelt.to ‹_› (by (intros; first | rfl | ((try simp (disch := omega) only [g_eq, g_ne, g_R, g_O, g_IR, g_IO, g_RO, g_OO, g_OR, g_RRe, g_RRn]); done) | fail)) (by (intros; first | rfl | ((try simp (disch := omega) only [g_eq, g_ne, g_R, g_O, g_IR, g_IO, g_RO, g_OO, g_OR, g_RRe, g_RRn]); done) | fail)) (by (intros; first | rfl | ((try simp (disch := omega) only [g_eq, g_ne, g_R, g_O, g_IR, g_IO, g_RO, g_OO, g_OR, g_RRe, g_RRn]); done) | fail)) (by (intros; first | rfl | ((try simp (disch := omega) only [g_eq, g_ne, g_R, g_O, g_IR, g_IO, g_RO, g_OO, g_OR, g_RRe, g_RRn]); done) | fail)) (by (intros; first | rfl | ((try simp (disch := omega) only [g_eq, g_ne, g_R, g_O, g_IR, g_IO, g_RO, g_OO, g_OR, g_RRe, g_RRn]); done) | fail)) | exact rBins.to ‹_› (by (intros; first | rfl | ((try simp (disch := omega) only [g_eq, g_ne, g_R, g_O, g_IR, g_IO, g_RO, g_OO, g_OR, g_RRe, g_RRn]); done) | fail)) (by (intros; first | rfl | ((try simp (disch := omega) only [g_eq, g_ne, g_R, g_O, g_IR, g_IO, g_RO, g_OO, g_OR, g_RRe, g_RRn]); done) | fail)) | exact ⟨_, rVou.to ‹_› (by (intros; first | rfl | ((try simp (disch := omega) only [g_eq, g_ne, g_R, g_O, g_IR, g_IO, g_RO, g_OO, g_OR, g_RRe, g_RRn]); done) | fail)) (by (intros; first | rfl | ((try simp (disch := omega) only [g_eq, g_ne, g_R, g_O, g_IR, g_IO, g_RO, g_OO, g_OR, g_RRe, g_RRn]); done) | fail)) (by (intros; first | rfl | ((try simp (disch := omega) only [g_eq, g_ne, g_R, g_O, g_IR, g_IO, g_RO, g_OO, g_OR, g_RRe, g_RRn]); done) | fail)) (by (intros; first | rfl | ((try simp (disch := omega) only [g_eq, g_ne, g_R, g_O, g_IR, g_IO, g_RO, g_OO, g_OR, g_RRe, g_RRn]); done) | fail)) (by (intros; first | rfl | ((try simp (disch := omega) only [g_eq, g_ne, g_R, g_O, g_IR, g_IO, g_RO, g_OO, g_OR, g_RRe, g_RRn]); done) | fail))⟩ | exact rJou.to ‹_› (by (intros; first | rfl | ((try simp (disch := omega) only [g_eq, g_ne, g_R, g_O, g_IR, g_IO, g_RO, g_OO, g_OR, g_RRe, g_RRn]); done) | fail)) (by (intros; first | rfl | ((try simp (disch := omega) only [g_eq, g_ne, g_R, g_O, g_IR, g_IO, g_RO, g_OO, g_OR, g_RRe, g_RRn]); done) | fail)) (by (intros; first | rfl | ((try simp (disch := omega) only [g_eq, g_ne, g_R, g_O, g_IR, g_IO, g_RO, g_OO, g_OR, g_RRe, g_RRn]); done) | fail)) (by (intros; first | rfl | ((try simp (disch := omega) only [g_eq, g_ne, g_R, g_O, g_IR, g_IO, g_RO, g_OO, g_OR, g_RRe, g_RRn]); done) | fail)) | exact ⟨_, _, rLat.to ‹_› (Nat.le_refl _) (by (intros; first | rfl | ((try simp (disch := omega) only [g_eq, g_ne, g_R, g_O, g_IR, g_IO, g_RO, g_OO, g_OR, g_RRe, g_RRn]); done) | fail)) (by (intros; first | rfl | ((try simp (disch := omega) only [g_eq, g_ne, g_R, g_O, g_IR, g_IO, g_RO, g_OO, g_OR, g_RRe, g_RRn]); done) | fail)) (by (intros; first | rfl | ((try simp (disch := omega) only [g_eq, g_ne, g_R, g_O, g_IR, g_IO, g_RO, g_OO, g_OR, g_RRe, g_RRn]); done) | fail))⟩ | exact rTot.to ‹_› (by (intros; first | rfl | ((try simp (disch := omega) only [g_eq, g_ne, g_R, g_O, g_IR, g_IO, g_RO, g_OO, g_OR, g_RRe, g_RRn]); done) | fail)) (by (intros; first | rfl | ((try simp (disch := omega) only [g_eq, g_ne, g_R, g_O, g_IR, g_IO, g_RO, g_OO, g_OR, g_RRe, g_RRn]); done) | fail)) (by (intros; first | rfl | ((try simp (disch := omega) only [g_eq, g_ne, g_R, g_O, g_IR, g_IO, g_RO, g_OO, g_OR, g_RRe, g_RRn]); done) | fail)) (by (intros; first | rfl | ((try simp (disch := omega) only [g_eq, g_ne, g_R, g_O, g_IR, g_IO, g_RO, g_OO, g_OR, g_RRe, g_RRn]); done) | fail)) (by (intros; first | rfl | ((try simp (disch := omega) only [g_eq, g_ne, g_R, g_O, g_IR, g_IO, g_RO, g_OO, g_OR, g_RRe, g_RRn]); done) | fail)) (by (intros; first | rfl | ((try simp (disch := omega) only [g_eq, g_ne, g_R, g_O, g_IR, g_IO, g_RO, g_OO, g_OR, g_RRe, g_RRn]); done) | fail)) (by (intros; first | rfl | ((try simp (disch := omega) only [g_eq, g_ne, g_R, g_O, g_IR, g_IO, g_RO, g_OO, g_OR, g_RRe, g_RRn]); done) | fail)) (by (intros; first | rfl | ((try simp (disch := omega) only [g_eq, g_ne, g_R, g_O, g_IR, g_IO, g_RO, g_OO, g_OR, g_RRe, g_RRn]); done) | fail)) | exact rMon.to ‹_› (Nat.le_refl _) (by (intros; first | rfl | ((try simp (disch := omega) only [g_eq, g_ne, g_R, g_O, g_IR, g_IO, g_RO, g_OO, g_OR, g_RRe, g_RRn]); done) | fail)) (by (intros; first | rfl | ((try simp (disch := omega) only [g_eq, g_ne, g_R, g_O, g_IR, g_IO, g_RO, g_OO, g_OR, g_RRe, g_RRn]); done) | fail)) (by (intros; first | rfl | ((try simp (disch := omega) only [g_eq, g_ne, g_R, g_O, g_IR, g_IO, g_RO, g_OO, g_OR, g_RRe, g_RRn]); done) | fail)) | fail)
          · refine rTot.mk ?_ ?_ ?_ ?_ ?_ ?_
            · (try simp (disch := omega) only [g_eq, g_ne, g_R, g_O, g_IR, g_IO, g_RO, g_OO, g_OR, g_RRe, g_RRn])
            · (try simp (disch := omega) only [g_eq, g_ne, g_R, g_O, g_IR, g_IO, g_RO, g_OO, g_OR, g_RRe, g_RRn]); exact tot.pad
            · (try simp (disch := omega) only [g_eq, g_ne, g_R, g_O, g_IR, g_IO, g_RO, g_OO, g_OR, g_RRe, g_RRn]); exact tot.sum
            · (try simp (disch := omega) only [g_eq, g_ne, g_R, g_O, g_IR, g_IO, g_RO, g_OO, g_OR, g_RRe, g_RRn]); rw [tot.giv, tot.cre]
            · (try simp (disch := omega) only [g_eq, g_ne, g_R, g_O, g_IR, g_IO, g_RO, g_OO, g_OR, g_RRe, g_RRn]); exact tot.sus
            · intro i hi; (try simp (disch := omega) only [g_eq, g_ne, g_R, g_O, g_IR, g_IO, g_RO, g_OO, g_OR, g_RRe, g_RRn]); exact tot.ref i hi
          · have u : ∀ j, rU (f_pI (f_pI c' 0 0 10 (f_gI c' 0 0 10 + f_gI c' 0 0 7)) 0 0 7 0) j = rU c' j := fun j => by unfold rU; (try simp (disch := omega) only [g_eq, g_ne, g_R, g_O, g_IR, g_IO, g_RO, g_OO, g_OR, g_RRe, g_RRn])
            have := mon.p0
            refine rMon.mk ?_ ?_ ?_ ?_ ?_
            · (try simp (disch := omega) only [g_eq, g_ne, g_R, g_O, g_IR, g_IO, g_RO, g_OO, g_OR, g_RRe, g_RRn]); exact mon.p0
            · (try simp (disch := omega) only [g_eq, g_ne, g_R, g_O, g_IR, g_IO, g_RO, g_OO, g_OR, g_RRe, g_RRn]); rw [q_sm_congr N fun j _ => u j]; exact mon.pe
            · (try simp (disch := omega) only [g_eq, g_ne, g_R, g_O, g_IR, g_IO, g_RO, g_OO, g_OR, g_RRe, g_RRn]); exact mon.en
            · (try simp (disch := omega) only [g_eq, g_ne, g_R, g_O, g_IR, g_IO, g_RO, g_OO, g_OR, g_RRe, g_RRn]); decide
            · (try simp (disch := omega) only [g_eq, g_ne, g_R, g_O, g_IR, g_IO, g_RO, g_OO, g_OR, g_RRe, g_RRn]); rw [l0]; omega
          · (try simp (disch := omega) only [g_eq, g_ne, g_R, g_O, g_IR, g_IO, g_RO, g_OO, g_OR, g_RRe, g_RRn]); exact hw.r110
          · (try simp (disch := omega) only [g_eq, g_ne, g_R, g_O, g_IR, g_IO, g_RO, g_OO, g_OR, g_RRe, g_RRn]); exact hw.unp
  · refine qI_no h (t := 1) (by decide) ?_ ?_
    · simp only [F_l_give, F_b_give, c_off q1, q_br]; rfl
    · simp only [F_m_give, q2, m_f1, q_bd, one_ne, if_false]
theorem o_voucher : qOk aI F_l_voucher F_m_voucher := by
  apply qOk.mk
  intro e K N c m he hK h
  rcases h.all.jou.on with ⟨q1, q2⟩ | ⟨q1, q2⟩
  · by_cases z0 : f_gI c 0 0 7 = 0
    · have z1 : f_gI (f_pI m 30 0 25 0) 30 0 8 = 0 := by (try simp (disch := omega) only [g_eq, g_ne, g_R, g_O, g_IR, g_IO, g_RO, g_OO, g_OR, g_RRe, g_RRn]); rw [← h.all.tot.cre]; exact z0
      refine qI_yes (c' := c) (m' := f_pI m 30 0 25 0) (N' := N) (e' := e) (K' := K) (v := 0) (x := 0) ?_ ?_ rfl (by (try simp (disch := omega) only [g_eq, g_ne, g_R, g_O, g_IR, g_IO, g_RO, g_OO, g_OR, g_RRe, g_RRn])) (by omega) (by omega) h.thr fC.rfl (fM.rfl.put (by decide))
      · simp only [F_l_voucher, F_b_voucher, c_on q1, q_bl, z0, if_true]; rfl
      · simp only [F_m_voucher, q2, m_f0, q_bd, if_true, z1]
    have z1 : ¬ f_gI (f_pI m 30 0 25 0) 30 0 8 = 0 := by (try simp (disch := omega) only [g_eq, g_ne, g_R, g_O, g_IR, g_IO, g_RO, g_OO, g_OR, g_RRe, g_RRn]); rw [← h.all.tot.cre]; exact z0
    have ht := h.thr (v := 0)
    obtain ⟨V, vou⟩ := ht.all.vou
    have v60 := vou.v60
    by_cases V60 : V = 60
    · subst V60
      have w1 : F_vo_isFull c = some (1, c) := by unfold F_vo_isFull; rw [vou.cnt]; rfl
      have w2 : f_gI (f_pI m 30 0 25 0) 30 0 12 = 60 := vou.siz
      refine qI_yes (c' := c) (m' := f_pI m 30 0 25 0) (N' := N) (e' := e) (K' := K) (v := 0) (x := 0) ?_ ?_ rfl (by (try simp (disch := omega) only [g_eq, g_ne, g_R, g_O, g_IR, g_IO, g_RO, g_OO, g_OR, g_RRe, g_RRn])) (by omega) (by omega) h.thr fC.rfl (fM.rfl.put (by decide))
      · simp only [F_l_voucher, F_b_voucher, c_on q1, q_bl, z0, if_false, w1, q_bd, one_ne]; rfl
      · simp only [F_m_voucher, q2, m_f0, q_bd, if_true, z1, if_false, w2]
    have w1 : F_vo_isFull c = some (0, c) := by
      unfold F_vo_isFull; rw [vou.cnt, if_pos (by rw [show (60 : Int32) = nI 60 from rfl, q_lt (by omega) (by omega)]; omega)]
    have w2 : ¬ f_gI (f_pI m 30 0 25 0) 30 0 12 = 60 := by
      rw [vou.siz, show (60 : Int32) = nI 60 from rfl, q_eq (by omega) (by omega)]; omega
    rcases s_write ht.all q1 with ⟨c', m', h1, h2, h3, h4, h5, h6, h7, h8, h9⟩ | ⟨c', m', h1, h2, h3, h4, h5, h6, h7, h8, h9⟩
    · refine qI_yes (c' := c') (m' := m') (N' := N) (e' := e) (K' := K) (v := 0) (x := 0) ?_ ?_ rfl ?_ (by omega) (by omega) (ht.cutoff h3 h4 h5 h6) h7 ((fM.rfl.put (by decide)).trans h8)
      · simp only [F_l_voucher, F_b_voucher, c_on q1, q_bl, z0, if_false, w1, h1, q_bd, if_true]; rfl
      · simp only [F_m_voucher, q2, m_f0, q_bd, if_true, z1, w2, if_false, h2]
      · rw [h9]; (try simp (disch := omega) only [g_eq, g_ne, g_R, g_O, g_IR, g_IO, g_RO, g_OO, g_OR, g_RRe, g_RRn])
    have vo : rVou V e c' m' := vou.to (fun k i j _ _ => h5 _ _ _ (by omega)) (fun k i j _ _ => h9 _ _ _ (by omega)) (h9 _ _ _ (by omega)) (h9 _ _ _ (by omega)) (h9 _ _ _ (by omega))
    have ib : f_ib (nI V) 60 = true := q_ib (by omega) (by decide)
    have ix : f_ix (nI V) = V := q_ix (by omega)
    have hw := ht.wrote q1 h3 h5 h6
    have tot := hw.all.tot
    have mon := hw.all.mon
    have s0 := vo.se0
    have s1 := vo.se1
    have sn : (f_gI c' 19 0 4 + 1).toInt = (f_gI c' 19 0 4).toInt + 1 := by rw [q_add, l1] <;> rw [l1] <;> omega
    refine qI_yes (c' := f_pI (f_pI (f_pI (f_pI (f_pI (f_pI (f_pI c' 19 0 4 (f_gI c' 19 0 4 + 1)) 20 0 V (f_gI c' 19 0 4 + 1)) 21 0 V (f_gI c' 0 0 7)) 22 0 V 0) 19 0 3 (nI V + 1)) 19 0 5 (f_gI c' 19 0 5 + f_gI c' 0 0 7)) 0 0 7 0) (m' := f_pI (f_pI (f_pI (f_pI (f_pI (f_pI (f_pI m' 30 0 13 (f_gI m' 30 0 13 + 1)) 37 0 V (f_gI m' 30 0 13 + 1)) 38 0 V (f_gI m' 30 0 8)) 39 0 V 0) 30 0 12 (nI V + 1)) 30 0 23 (f_gI m' 30 0 23 + f_gI m' 30 0 8)) 30 0 8 0) (N' := N) (e' := e + 1) (K' := K) (v := f_gI m' 30 0 13 + 1) (x := (f_gI c' 19 0 4 + 1).toInt64) ?_ ?_ (by rw [vo.ser]) ?_ (by omega) (by omega) ?_ ?_ ?_
    · simp only [F_l_voucher, F_b_voucher, c_on q1, q_bl, z0, if_false, w1, h1, q_bd, one_ne, if_true, F_vo_issue, F_vo_keep]
      (try simp (disch := omega) only [g_eq, g_ne, g_R, g_O, g_IR, g_IO, g_RO, g_OO, g_OR, g_RRe, g_RRn])
      simp only [vo.cnt, q_gd ib, ix, q_bd, q_gd (show f_bz 0 = true from rfl)]
      (try simp (disch := omega) only [g_eq, g_ne, g_R, g_O, g_IR, g_IO, g_RO, g_OO, g_OR, g_RRe, g_RRn])
      rfl
    · simp only [F_m_voucher, q2, m_f0, q_bd, if_true, z1, w2, if_false, h2, one_ne]
      (try simp (disch := omega) only [g_eq, g_ne, g_R, g_O, g_IR, g_IO, g_RO, g_OO, g_OR, g_RRe, g_RRn])
      simp only [vo.siz, q_gd ib, ix]
      (try simp (disch := omega) only [g_eq, g_ne, g_R, g_O, g_IR, g_IO, g_RO, g_OO, g_OR, g_RRe, g_RRn])
    · (try simp (disch := omega) only [g_eq, g_ne, g_R, g_O, g_IR, g_IO, g_RO, g_OO, g_OR, g_RRe, g_RRn]); rw [h9 _ _ _ (by omega)]; (try simp (disch := omega) only [g_eq, g_ne, g_R, g_O, g_IR, g_IO, g_RO, g_OO, g_OR, g_RRe, g_RRn])
    · obtain ⟨e5, K9, cat, belt, bins, _, jou, ⟨t, s, lat⟩, tot, mon⟩ := hw.all
      have mo2 : rMon N (e + 1) c' := (mon.up (by have := mon.en; omega))
      refine rRel.mk (rAll.mk he K9 ?_ ?_ ?_ (⟨V + 1, ?_⟩) ?_ ?_ ?_ ?_) ?_ ?_
      any_goals (first | exact rCat.to ‹_› (by (intros; first | rfl | ((try simp (disch := omega) only [g_eq, g_ne, g_R, g_O, g_IR, g_IO, g_RO, g_OO, g_OR, g_RRe, g_RRn]); done) | fail)) (by (intros; first | rfl | ((try simp (disch := omega) only [g_eq, g_ne, g_R, g_O, g_IR, g_IO, g_RO, g_OO, g_OR, g_RRe, g_RRn]); done) | fail)) | exact rBelt.to ‹_› (by (intros; first | rfl | ((try simp (disch := omega) only [g_eq, g_ne, g_R, g_O, g_IR, g_IO, g_RO, g_OO, g_OR, g_RRe, g_RRn]); done) | fail)) (by (intros; first | rfl | ((try simp (disch := omega) only [g_eq, g_ne, g_R, g_O, g_IR, g_IO, g_RO, g_OO, g_OR, g_RRe, g_RRn]); done) | fail)) (by (intros; first | rfl | ((try simp (disch := omega) only [g_eq, g_ne, g_R, g_O, g_IR, g_IO, g_RO, g_OO, g_OR, g_RRe, g_RRn]); done) | fail)) (by (intros; first | rfl | ((try simp (disch := omega) only [g_eq, g_ne, g_R, g_O, g_IR, g_IO, g_RO, g_OO, g_OR, g_RRe, g_RRn]); done) | fail)) (by (intros; first | rfl | ((try simp (disch := omega) only [g_eq, g_ne, g_R, g_O, g_IR, g_IO, g_RO, g_OO, g_OR, g_RRe, g_RRn]); done) | fail)) | exact rBins.to ‹_› (by (intros; first | rfl | ((try simp (disch := omega) only [g_eq, g_ne, g_R, g_O, g_IR, g_IO, g_RO, g_OO, g_OR, g_RRe, g_RRn]); done) | fail)) (by (intros; first | rfl | ((try simp (disch := omega) only [g_eq, g_ne, g_R, g_O, g_IR, g_IO, g_RO, g_OO, g_OR, g_RRe, g_RRn]); done) | fail)) | exact ⟨_, rVou.to ‹_› (by (intros; first | rfl | ((try simp (disch := omega) only [g_eq, g_ne, g_R, g_O, g_IR, g_IO, g_RO, g_OO, g_OR, g_RRe, g_RRn]); done) | fail)) (by (intros; first | rfl | ((try simp (disch := omega) only [g_eq, g_ne, g_R, g_O, g_IR, g_IO, g_RO, g_OO, g_OR, g_RRe, g_RRn]); done) | fail)) (by (intros; first | rfl | ((try simp (disch := omega) only [g_eq, g_ne, g_R, g_O, g_IR, g_IO, g_RO, g_OO, g_OR, g_RRe, g_RRn]); done) | fail)) (by (intros; first | rfl | ((try simp (disch := omega) only [g_eq, g_ne, g_R, g_O, g_IR, g_IO, g_RO, g_OO, g_OR, g_RRe, g_RRn]); done) | fail)) (by (intros; first | rfl | ((try simp (disch := omega) only [g_eq, g_ne, g_R, g_O, g_IR, g_IO, g_RO, g_OO, g_OR, g_RRe, g_RRn]); done) | fail))⟩ | exact rJou.to ‹_› (by (intros; first | rfl | ((try simp (disch := omega) only [g_eq, g_ne, g_R, g_O, g_IR, g_IO, g_RO, g_OO, g_OR, g_RRe, g_RRn]); done) | fail)) (by (intros; first | rfl | ((try simp (disch := omega) only [g_eq, g_ne, g_R, g_O, g_IR, g_IO, g_RO, g_OO, g_OR, g_RRe, g_RRn]); done) | fail)) (by (intros; first | rfl | ((try simp (disch := omega) only [g_eq, g_ne, g_R, g_O, g_IR, g_IO, g_RO, g_OO, g_OR, g_RRe, g_RRn]); done) | fail)) (by (intros; first | rfl | ((try simp (disch := omega) only [g_eq, g_ne, g_R, g_O, g_IR, g_IO, g_RO, g_OO, g_OR, g_RRe, g_RRn]); done) | fail)) | exact ⟨_, _, rLat.to ‹_› (Nat.le_refl _) (by (intros; first | rfl | ((try simp (disch := omega) only [g_eq, g_ne, g_R, g_O, g_IR, g_IO, g_RO, g_OO, g_OR, g_RRe, g_RRn]); done) | fail)) (by (intros; first | rfl | ((try simp (disch := omega) only [g_eq, g_ne, g_R, g_O, g_IR, g_IO, g_RO, g_OO, g_OR, g_RRe, g_RRn]); done) | fail)) (by (intros; first | rfl | ((try simp (disch := omega) only [g_eq, g_ne, g_R, g_O, g_IR, g_IO, g_RO, g_OO, g_OR, g_RRe, g_RRn]); done) | fail))⟩ | exact rTot.to ‹_› (by (intros; first | rfl | ((try simp (disch := omega) only [g_eq, g_ne, g_R, g_O, g_IR, g_IO, g_RO, g_OO, g_OR, g_RRe, g_RRn]); done) | fail)) (by (intros; first | rfl | ((try simp (disch := omega) only [g_eq, g_ne, g_R, g_O, g_IR, g_IO, g_RO, g_OO, g_OR, g_RRe, g_RRn]); done) | fail)) (by (intros; first | rfl | ((try simp (disch := omega) only [g_eq, g_ne, g_R, g_O, g_IR, g_IO, g_RO, g_OO, g_OR, g_RRe, g_RRn]); done) | fail)) (by (intros; first | rfl | ((try simp (disch := omega) only [g_eq, g_ne, g_R, g_O, g_IR, g_IO, g_RO, g_OO, g_OR, g_RRe, g_RRn]); done) | fail)) (by (intros; first | rfl | ((try simp (disch := omega) only [g_eq, g_ne, g_R, g_O, g_IR, g_IO, g_RO, g_OO, g_OR, g_RRe, g_RRn]); done) | fail)) (by (intros; first | rfl | ((try simp (disch := omega) only [g_eq, g_ne, g_R, g_O, g_IR, g_IO, g_RO, g_OO, g_OR, g_RRe, g_RRn]); done) | fail)) (by (intros; first | rfl | ((try simp (disch := omega) only [g_eq, g_ne, g_R, g_O, g_IR, g_IO, g_RO, g_OO, g_OR, g_RRe, g_RRn]); done) | fail)) (by (intros; first | rfl | ((try simp (disch := omega) only [g_eq, g_ne, g_R, g_O, g_IR, g_IO, g_RO, g_OO, g_OR, g_RRe, g_RRn]); done) | fail)) | exact rMon.to ‹_› (Nat.le_refl _) (by (intros; first | rfl | ((try simp (disch := omega) only [g_eq, g_ne, g_R, g_O, g_IR, g_IO, g_RO, g_OO, g_OR, g_RRe, g_RRn]); done) | fail)) (by (intros; first | rfl | ((try simp (disch := omega) only [g_eq, g_ne, g_R, g_O, g_IR, g_IO, g_RO, g_OO, g_OR, g_RRe, g_RRn]); done) | fail)) (by (intros; first | rfl | ((try simp (disch := omega) only [g_eq, g_ne, g_R, g_O, g_IR, g_IO, g_RO, g_OO, g_OR, g_RRe, g_RRn]); done) | fail)) | fail)
      · refine rVou.mk ?_ ?_ ?_ ?_ ?_ ?_ ?_ ?_ ?_ ?_ ?_ ?_ ?_
        · omega
        · (try simp (disch := omega) only [g_eq, g_ne, g_R, g_O, g_IR, g_IO, g_RO, g_OO, g_OR, g_RRe, g_RRn]); rw [q_n1]
        · (try simp (disch := omega) only [g_eq, g_ne, g_R, g_O, g_IR, g_IO, g_RO, g_OO, g_OR, g_RRe, g_RRn]); rw [q_n1]
        · (try simp (disch := omega) only [g_eq, g_ne, g_R, g_O, g_IR, g_IO, g_RO, g_OO, g_OR, g_RRe, g_RRn]); rw [vo.ser]
        · (try simp (disch := omega) only [g_eq, g_ne, g_R, g_O, g_IR, g_IO, g_RO, g_OO, g_OR, g_RRe, g_RRn]); rw [vo.iss, tot.cre]
        · (try simp (disch := omega) only [g_eq, g_ne, g_R, g_O, g_IR, g_IO, g_RO, g_OO, g_OR, g_RRe, g_RRn]); omega
        · (try simp (disch := omega) only [g_eq, g_ne, g_R, g_O, g_IR, g_IO, g_RO, g_OO, g_OR, g_RRe, g_RRn]); omega
        · intro i hi
          by_cases q : i = V
          · subst q; (try simp (disch := omega) only [g_eq, g_ne, g_R, g_O, g_IR, g_IO, g_RO, g_OO, g_OR, g_RRe, g_RRn]); rw [vo.ser]
          · (try simp (disch := omega) only [g_eq, g_ne, g_R, g_O, g_IR, g_IO, g_RO, g_OO, g_OR, g_RRe, g_RRn]); exact vo.num i (by omega)
        · intro i hi
          by_cases q : i = V
          · subst q; (try simp (disch := omega) only [g_eq, g_ne, g_R, g_O, g_IR, g_IO, g_RO, g_OO, g_OR, g_RRe, g_RRn]); exact tot.cre
          · (try simp (disch := omega) only [g_eq, g_ne, g_R, g_O, g_IR, g_IO, g_RO, g_OO, g_OR, g_RRe, g_RRn]); exact vo.sum i (by omega)
        · intro i hi
          by_cases q : i = V
          · subst q; (try simp (disch := omega) only [g_eq, g_ne, g_R, g_O, g_IR, g_IO, g_RO, g_OO, g_OR, g_RRe, g_RRn])
          · (try simp (disch := omega) only [g_eq, g_ne, g_R, g_O, g_IR, g_IO, g_RO, g_OO, g_OR, g_RRe, g_RRn]); exact vo.red i (by omega)
        · intro i hi
          by_cases q : i = V
          · subst q; (try simp (disch := omega) only [g_eq, g_ne, g_R, g_O, g_IR, g_IO, g_RO, g_OO, g_OR, g_RRe, g_RRn]); omega
          · (try simp (disch := omega) only [g_eq, g_ne, g_R, g_O, g_IR, g_IO, g_RO, g_OO, g_OR, g_RRe, g_RRn]); exact vo.nok i (by omega)
        · intro i hi
          by_cases q : i = V
          · subst q; (try simp (disch := omega) only [g_eq, g_ne, g_R, g_O, g_IR, g_IO, g_RO, g_OO, g_OR, g_RRe, g_RRn])
            have := mon.c0
            have := mon.cp
            have := mon.pe
            have := mon.en
            omega
          · (try simp (disch := omega) only [g_eq, g_ne, g_R, g_O, g_IR, g_IO, g_RO, g_OO, g_OR, g_RRe, g_RRn]); exact vo.sok i (by omega)
        · intro i hi
          by_cases q : i = V
          · subst q; (try simp (disch := omega) only [g_eq, g_ne, g_R, g_O, g_IR, g_IO, g_RO, g_OO, g_OR, g_RRe, g_RRn]); exact Or.inl trivial
          · (try simp (disch := omega) only [g_eq, g_ne, g_R, g_O, g_IR, g_IO, g_RO, g_OO, g_OR, g_RRe, g_RRn]); exact vo.rok i (by omega)
      · refine rTot.mk ?_ ?_ ?_ ?_ ?_ ?_
        · (try simp (disch := omega) only [g_eq, g_ne, g_R, g_O, g_IR, g_IO, g_RO, g_OO, g_OR, g_RRe, g_RRn])
        · (try simp (disch := omega) only [g_eq, g_ne, g_R, g_O, g_IR, g_IO, g_RO, g_OO, g_OR, g_RRe, g_RRn]); exact tot.pad
        · (try simp (disch := omega) only [g_eq, g_ne, g_R, g_O, g_IR, g_IO, g_RO, g_OO, g_OR, g_RRe, g_RRn]); exact tot.sum
        · (try simp (disch := omega) only [g_eq, g_ne, g_R, g_O, g_IR, g_IO, g_RO, g_OO, g_OR, g_RRe, g_RRn]); exact tot.giv
        · (try simp (disch := omega) only [g_eq, g_ne, g_R, g_O, g_IR, g_IO, g_RO, g_OO, g_OR, g_RRe, g_RRn]); exact tot.sus
        · intro i hi; (try simp (disch := omega) only [g_eq, g_ne, g_R, g_O, g_IR, g_IO, g_RO, g_OO, g_OR, g_RRe, g_RRn]); exact tot.ref i hi
      · have u : ∀ j, rU (f_pI (f_pI (f_pI (f_pI (f_pI (f_pI (f_pI c' 19 0 4 (f_gI c' 19 0 4 + 1)) 20 0 V (f_gI c' 19 0 4 + 1)) 21 0 V (f_gI c' 0 0 7)) 22 0 V 0) 19 0 3 (nI V + 1)) 19 0 5 (f_gI c' 19 0 5 + f_gI c' 0 0 7)) 0 0 7 0) j = rU c' j := fun j => by unfold rU; (try simp (disch := omega) only [g_eq, g_ne, g_R, g_O, g_IR, g_IO, g_RO, g_OO, g_OR, g_RRe, g_RRn])
        have := mon.p0
        refine rMon.mk ?_ ?_ ?_ ?_ ?_
        · (try simp (disch := omega) only [g_eq, g_ne, g_R, g_O, g_IR, g_IO, g_RO, g_OO, g_OR, g_RRe, g_RRn]); exact mon.p0
        · (try simp (disch := omega) only [g_eq, g_ne, g_R, g_O, g_IR, g_IO, g_RO, g_OO, g_OR, g_RRe, g_RRn]); rw [q_sm_congr N fun j _ => u j]; exact mon.pe
        · (try simp (disch := omega) only [g_eq, g_ne, g_R, g_O, g_IR, g_IO, g_RO, g_OO, g_OR, g_RRe, g_RRn]); exact mo2.en
        · (try simp (disch := omega) only [g_eq, g_ne, g_R, g_O, g_IR, g_IO, g_RO, g_OO, g_OR, g_RRe, g_RRn]); decide
        · (try simp (disch := omega) only [g_eq, g_ne, g_R, g_O, g_IR, g_IO, g_RO, g_OO, g_OR, g_RRe, g_RRn]); rw [l0]; omega
      · (try simp (disch := omega) only [g_eq, g_ne, g_R, g_O, g_IR, g_IO, g_RO, g_OO, g_OR, g_RRe, g_RRn]); exact hw.r110
      · (try simp (disch := omega) only [g_eq, g_ne, g_R, g_O, g_IR, g_IO, g_RO, g_OO, g_OR, g_RRe, g_RRn]); exact hw.unp
    · exact ((((((h7.put (by decide)).put (by decide)).put (by decide)).put (by decide)).put (by decide)).put (by decide)).put (by decide)
    · exact (((((((((fM.rfl.put (by decide)).trans h8).put (by decide)).put (by decide)).put (by decide)).put (by decide)).put (by decide)).put (by decide)).put (by decide))
  · refine qI_no h (t := 1) (by decide) ?_ ?_
    · simp only [F_l_voucher, F_b_voucher, c_off q1, q_br]; rfl
    · simp only [F_m_voucher, q2, m_f1, q_bd, one_ne, if_false]
theorem s_susp {c m : fST} (h : rTot c m) : ∃ v, F_b_isSuspicious c = some (v, c) ∧ F_m_isSuspicious m = some (v, m) ∧ (v = 0 ∨ v = 1) := by
  unfold F_b_isSuspicious F_m_isSuspicious
  rw [h.sus]
  by_cases a : f_gI m 30 0 16 ≤ 50
  · exact ⟨0, by rw [if_pos a], by rw [if_pos a], Or.inl rfl⟩
  · exact ⟨1, by rw [if_neg a], by rw [if_neg a], Or.inr rfl⟩
theorem o_service : qOk aB F_l_service F_m_service := by
  apply qOk.mk
  intro e K N c m he hK h
  have n13 := h.all.belt.n13
  rcases h.all.jou.on with ⟨q1, q2⟩ | ⟨q1, q2⟩
  · by_cases N0 : N = 0
    · subst N0
      have w1 : f_gI c 11 0 1 ≤ 0 := by rw [h.all.belt.cnt]; exact Int32.le_refl _
      have w2 : f_gI m 30 0 4 ≤ 0 := by rw [h.all.belt.siz]; exact Int32.le_refl _
      have ht := h.thr (v := 0)
      obtain ⟨v, v1, v2, v3⟩ := s_susp ht.all.tot
      have hb : f_bz v = true := by rcases v3 with rfl | rfl <;> rfl
      refine qB_yes (c' := f_pI c 0 0 11 0) (m' := f_pI (f_pI m 30 0 25 0) 30 0 16 0) (N' := 0) (e' := e) (K' := K) (v := v) (x := if v = 0 then 0 else 1) ?_ ?_ ?_ (by (try simp (disch := omega) only [g_eq, g_ne, g_R, g_O, g_IR, g_IO, g_RO, g_OO, g_OR, g_RRe, g_RRn])) (by omega) (by omega) ?_ (fC.rfl.put (by decide)) ((fM.rfl.put (by decide)).put (by decide))
      · simp only [F_l_service, F_b_service, c_on q1, q_bl, F_b_requireEmptyBelt, w1, if_true, v1, q_bd, q_gd hb]
        rcases v3 with rfl | rfl <;> rfl
      · simp only [F_m_service, q2, w2, if_true, b_m_service_20, m_f0, q_bd, v2, q_gd hb]
      · rcases v3 with rfl | rfl
        · exact Or.inl ⟨rfl, rfl⟩
        · exact Or.inr ⟨rfl, rfl⟩
      · obtain ⟨e5, K9, cat, belt, bins, ⟨V, vou⟩, jou, ⟨t, s, lat⟩, tot, mon⟩ := ht.all
        refine rRel.mk (rAll.mk e5 K9 ?_ ?_ ?_ ?_ ?_ ?_ ?_ ?_) ?_ ?_
        any_goals (first | exact rCat.to ‹_› (by (intros; first | rfl | ((try simp (disch := omega) only [g_eq, g_ne, g_R, g_O, g_IR, g_IO, g_RO, g_OO, g_OR, g_RRe, g_RRn]); done) | fail)) (by (intros; first | rfl | ((try simp (disch := omega) only [g_eq, g_ne, g_R, g_O, g_IR, g_IO, g_RO, g_OO, g_OR, g_RRe, g_RRn]); done) | fail)) | exact rBelt.to ‹_› (by (intros; first | rfl | ((try simp (disch := omega) only [g_eq, g_ne, g_R, g_O, g_IR, g_IO, g_RO, g_OO, g_OR, g_RRe, g_RRn]); done) | fail)) (by (intros; first | rfl | ((try simp (disch := omega) only [g_eq, g_ne, g_R, g_O, g_IR, g_IO, g_RO, g_OO, g_OR, g_RRe, g_RRn]); done) | fail)) (by (intros; first | rfl | ((try simp (disch := omega) only [g_eq, g_ne, g_R, g_O, g_IR, g_IO, g_RO, g_OO, g_OR, g_RRe, g_RRn]); done) | fail)) (by (intros; first | rfl | ((try simp (disch := omega) only [g_eq, g_ne, g_R, g_O, g_IR, g_IO, g_RO, g_OO, g_OR, g_RRe, g_RRn]); done) | fail)) (by (intros; first | rfl | ((try simp (disch := omega) only [g_eq, g_ne, g_R, g_O, g_IR, g_IO, g_RO, g_OO, g_OR, g_RRe, g_RRn]); done) | fail)) | exact rBins.to ‹_› (by (intros; first | rfl | ((try simp (disch := omega) only [g_eq, g_ne, g_R, g_O, g_IR, g_IO, g_RO, g_OO, g_OR, g_RRe, g_RRn]); done) | fail)) (by (intros; first | rfl | ((try simp (disch := omega) only [g_eq, g_ne, g_R, g_O, g_IR, g_IO, g_RO, g_OO, g_OR, g_RRe, g_RRn]); done) | fail)) | exact ⟨_, rVou.to ‹_› (by (intros; first | rfl | ((try simp (disch := omega) only [g_eq, g_ne, g_R, g_O, g_IR, g_IO, g_RO, g_OO, g_OR, g_RRe, g_RRn]); done) | fail)) (by (intros; first | rfl | ((try simp (disch := omega) only [g_eq, g_ne, g_R, g_O, g_IR, g_IO, g_RO, g_OO, g_OR, g_RRe, g_RRn]); done) | fail)) (by (intros; first | rfl | ((try simp (disch := omega) only [g_eq, g_ne, g_R, g_O, g_IR, g_IO, g_RO, g_OO, g_OR, g_RRe, g_RRn]); done) | fail)) (by (intros; first | rfl | ((try simp (disch := omega) only [g_eq, g_ne, g_R, g_O, g_IR, g_IO, g_RO, g_OO, g_OR, g_RRe, g_RRn]); done) | fail)) (by (intros; first | rfl | ((try simp (disch := omega) only [g_eq, g_ne, g_R, g_O, g_IR, g_IO, g_RO, g_OO, g_OR, g_RRe, g_RRn]); done) | fail))⟩ | exact rJou.to ‹_› (by (intros; first | rfl | ((try simp (disch := omega) only [g_eq, g_ne, g_R, g_O, g_IR, g_IO, g_RO, g_OO, g_OR, g_RRe, g_RRn]); done) | fail)) (by (intros; first | rfl | ((try simp (disch := omega) only [g_eq, g_ne, g_R, g_O, g_IR, g_IO, g_RO, g_OO, g_OR, g_RRe, g_RRn]); done) | fail)) (by (intros; first | rfl | ((try simp (disch := omega) only [g_eq, g_ne, g_R, g_O, g_IR, g_IO, g_RO, g_OO, g_OR, g_RRe, g_RRn]); done) | fail)) (by (intros; first | rfl | ((try simp (disch := omega) only [g_eq, g_ne, g_R, g_O, g_IR, g_IO, g_RO, g_OO, g_OR, g_RRe, g_RRn]); done) | fail)) | exact ⟨_, _, rLat.to ‹_› (Nat.le_refl _) (by (intros; first | rfl | ((try simp (disch := omega) only [g_eq, g_ne, g_R, g_O, g_IR, g_IO, g_RO, g_OO, g_OR, g_RRe, g_RRn]); done) | fail)) (by (intros; first | rfl | ((try simp (disch := omega) only [g_eq, g_ne, g_R, g_O, g_IR, g_IO, g_RO, g_OO, g_OR, g_RRe, g_RRn]); done) | fail)) (by (intros; first | rfl | ((try simp (disch := omega) only [g_eq, g_ne, g_R, g_O, g_IR, g_IO, g_RO, g_OO, g_OR, g_RRe, g_RRn]); done) | fail))⟩ | exact rTot.to ‹_› (by (intros; first | rfl | ((try simp (disch := omega) only [g_eq, g_ne, g_R, g_O, g_IR, g_IO, g_RO, g_OO, g_OR, g_RRe, g_RRn]); done) | fail)) (by (intros; first | rfl | ((try simp (disch := omega) only [g_eq, g_ne, g_R, g_O, g_IR, g_IO, g_RO, g_OO, g_OR, g_RRe, g_RRn]); done) | fail)) (by (intros; first | rfl | ((try simp (disch := omega) only [g_eq, g_ne, g_R, g_O, g_IR, g_IO, g_RO, g_OO, g_OR, g_RRe, g_RRn]); done) | fail)) (by (intros; first | rfl | ((try simp (disch := omega) only [g_eq, g_ne, g_R, g_O, g_IR, g_IO, g_RO, g_OO, g_OR, g_RRe, g_RRn]); done) | fail)) (by (intros; first | rfl | ((try simp (disch := omega) only [g_eq, g_ne, g_R, g_O, g_IR, g_IO, g_RO, g_OO, g_OR, g_RRe, g_RRn]); done) | fail)) (by (intros; first | rfl | ((try simp (disch := omega) only [g_eq, g_ne, g_R, g_O, g_IR, g_IO, g_RO, g_OO, g_OR, g_RRe, g_RRn]); done) | fail)) (by (intros; first | rfl | ((try simp (disch := omega) only [g_eq, g_ne, g_R, g_O, g_IR, g_IO, g_RO, g_OO, g_OR, g_RRe, g_RRn]); done) | fail)) (by (intros; first | rfl | ((try simp (disch := omega) only [g_eq, g_ne, g_R, g_O, g_IR, g_IO, g_RO, g_OO, g_OR, g_RRe, g_RRn]); done) | fail)) | exact rMon.to ‹_› (Nat.le_refl _) (by (intros; first | rfl | ((try simp (disch := omega) only [g_eq, g_ne, g_R, g_O, g_IR, g_IO, g_RO, g_OO, g_OR, g_RRe, g_RRn]); done) | fail)) (by (intros; first | rfl | ((try simp (disch := omega) only [g_eq, g_ne, g_R, g_O, g_IR, g_IO, g_RO, g_OO, g_OR, g_RRe, g_RRn]); done) | fail)) (by (intros; first | rfl | ((try simp (disch := omega) only [g_eq, g_ne, g_R, g_O, g_IR, g_IO, g_RO, g_OO, g_OR, g_RRe, g_RRn]); done) | fail)) | fail)
        · refine rTot.mk ?_ ?_ ?_ ?_ ?_ ?_
          · (try simp (disch := omega) only [g_eq, g_ne, g_R, g_O, g_IR, g_IO, g_RO, g_OO, g_OR, g_RRe, g_RRn]); have := tot.cre; revert this; (try simp (disch := omega) only [g_eq, g_ne, g_R, g_O, g_IR, g_IO, g_RO, g_OO, g_OR, g_RRe, g_RRn]); exact id
          · (try simp (disch := omega) only [g_eq, g_ne, g_R, g_O, g_IR, g_IO, g_RO, g_OO, g_OR, g_RRe, g_RRn]); have := tot.pad; revert this; (try simp (disch := omega) only [g_eq, g_ne, g_R, g_O, g_IR, g_IO, g_RO, g_OO, g_OR, g_RRe, g_RRn]); exact id
          · (try simp (disch := omega) only [g_eq, g_ne, g_R, g_O, g_IR, g_IO, g_RO, g_OO, g_OR, g_RRe, g_RRn]); have := tot.sum; revert this; (try simp (disch := omega) only [g_eq, g_ne, g_R, g_O, g_IR, g_IO, g_RO, g_OO, g_OR, g_RRe, g_RRn]); exact id
          · (try simp (disch := omega) only [g_eq, g_ne, g_R, g_O, g_IR, g_IO, g_RO, g_OO, g_OR, g_RRe, g_RRn]); have := tot.giv; revert this; (try simp (disch := omega) only [g_eq, g_ne, g_R, g_O, g_IR, g_IO, g_RO, g_OO, g_OR, g_RRe, g_RRn]); exact id
          · (try simp (disch := omega) only [g_eq, g_ne, g_R, g_O, g_IR, g_IO, g_RO, g_OO, g_OR, g_RRe, g_RRn])
          · intro i hi; (try simp (disch := omega) only [g_eq, g_ne, g_R, g_O, g_IR, g_IO, g_RO, g_OO, g_OR, g_RRe, g_RRn]); have := tot.ref i hi; revert this; (try simp (disch := omega) only [g_eq, g_ne, g_R, g_O, g_IR, g_IO, g_RO, g_OO, g_OR, g_RRe, g_RRn]); exact id
        · refine rMon.mk ?_ ?_ ?_ ?_ ?_
          · (try simp (disch := omega) only [g_eq, g_ne, g_R, g_O, g_IR, g_IO, g_RO, g_OO, g_OR, g_RRe, g_RRn]); exact mon.p0
          · (try simp (disch := omega) only [g_eq, g_ne, g_R, g_O, g_IR, g_IO, g_RO, g_OO, g_OR, g_RRe, g_RRn]); exact mon.pe
          · (try simp (disch := omega) only [g_eq, g_ne, g_R, g_O, g_IR, g_IO, g_RO, g_OO, g_OR, g_RRe, g_RRn]); exact mon.en
          · (try simp (disch := omega) only [g_eq, g_ne, g_R, g_O, g_IR, g_IO, g_RO, g_OO, g_OR, g_RRe, g_RRn]); exact mon.c0
          · (try simp (disch := omega) only [g_eq, g_ne, g_R, g_O, g_IR, g_IO, g_RO, g_OO, g_OR, g_RRe, g_RRn]); exact mon.cp
        · intro _ j hj; omega
        · intro j hj; omega
    · have w1 : ¬ f_gI c 11 0 1 ≤ 0 := by rw [h.all.belt.cnt, show (0 : Int32) = nI 0 from rfl, q_le (by omega) (by omega)]; omega
      have w2 : ¬ f_gI m 30 0 4 ≤ 0 := by rw [h.all.belt.siz, show (0 : Int32) = nI 0 from rfl, q_le (by omega) (by omega)]; omega
      refine qB_no h (t := 1) (by decide) ?_ ?_
      · simp only [F_l_service, F_b_service, c_on q1, q_bl, F_b_requireEmptyBelt, w1, if_false, q_br]; rfl
      · simp only [F_m_service, q2, w2, if_true, if_false, b_m_service_15, b_m_service_20, m_f1, q_bd, one_ne]
  · refine qB_no h (t := 1) (by decide) ?_ ?_
    · simp only [F_l_service, F_b_service, c_off q1, q_br]; rfl
    · simp only [F_m_service, q2, one_ne, if_false, b_m_service_15, b_m_service_20, m_f1, q_bd]
