set_option linter.unusedVariables false
set_option linter.unusedSimpArgs false
theorem i_eq {a b : Int32} (h : a.toInt = b.toInt) : a = b := Int32.toInt_inj.mp h
theorem o_belt (a : Int32) : qOk aV (F_b_belt a) (F_m_belt a) := by
  apply qOk.mk
  intro e K N c m he hK h
  have n13 := h.all.belt.n13
  have hN : (nI N).toInt - 1 = (nI N - 1).toInt := by
    rw [q_sub, l1] <;> rw [l1, q_tn (by omega)] <;> omega
  have h1 : F_b_isIndex a (f_gI c 11 0 1) c = some (q_w a 0 (nI N - 1), c) := by rw [h.all.belt.cnt]; exact c_ii hN
  have hs : f_gI (f_pI m 30 0 25 0) 30 0 4 = nI N := by (try simp (disch := omega) only [g_eq, g_ne, g_R, g_O, g_IR, g_IO, g_RO, g_OO, g_OR, g_RRe, g_RRn]); exact h.all.belt.siz
  rcases q_w01 a 0 (nI N - 1) with w | ⟨w, w1, w2⟩
  · have w' : a < 0 ∨ nI N ≤ a := by
      unfold q_w at w
      rw [Int32.lt_iff_toInt_lt, Int32.le_iff_toInt_le]
      by_cases x : a.toInt < 0
      · exact Or.inl x
      · by_cases y : (nI N).toInt ≤ a.toInt
        · exact Or.inr y
        · rw [if_neg (by rw [Int32.lt_iff_toInt_lt]; exact x), if_neg (by rw [Int32.lt_iff_toInt_lt, ← hN]; omega)] at w
          cases w
    refine ⟨-1, c, -1, f_pI m 30 0 25 0, N, e, K, ?_, ?_, rfl, by omega, by omega, h.thr, fC.rfl, fM.rfl.put (by decide)⟩
    · simp only [F_b_belt, h1, q_bd, w, if_true]
    · unfold F_m_belt
      rw [hs]
      by_cases x : a < 0
      · rw [if_pos x]
      · rw [if_neg x, if_pos (w'.resolve_left x)]
  · have w1 : 0 ≤ a.toInt := w1
    rw [← hN, q_tn (by omega)] at w2
    obtain ⟨j, rfl⟩ : ∃ j, a = nI j := ⟨_, q_ex w1⟩
    have jb : j < 2147483648 ∨ 2147483648 ≤ j := by omega
    have ha := q_ex w1
    have jN : (nI j).toInt.toNat < N := by omega
    rw [ha] at h1 w ⊢
    generalize (nI j).toInt.toNat = i at *
    refine ⟨_, c, f_gI m 34 0 (20 * i), f_pI m 30 0 25 0, N, e, K, ?_, ?_, (h.all.belt.row i jN).num, by omega, by omega, h.thr, fC.rfl, fM.rfl.put (by decide)⟩
    · simp only [F_b_belt, h1, q_bd, w, one_ne, if_false, q_ix (show i < 2147483648 by omega), q_gd (q_ib (show i < 16 by omega) (by decide)), q_gd' (h.all.belt.rlt i (by omega))]
    · unfold F_m_belt
      rw [hs, if_neg (by rw [show (0 : Int32) = nI 0 from rfl, q_lt (by omega) (by omega)]; omega), if_neg (by rw [q_le (by omega) (by omega)]; omega), m_g0 (by omega), q_bd]
      (try simp (disch := omega) only [g_eq, g_ne, g_R, g_O, g_IR, g_IO, g_RO, g_OO, g_OR, g_RRe, g_RRn])
theorem o_redeem (a : Int32) : qOk aI (F_l_redeem a) (F_m_redeem a) := by
  apply qOk.mk
  intro e K N c m he hK h
  obtain ⟨V, vou⟩ := h.all.vou
  have v60 := vou.v60
  have hV : (nI V).toInt - 1 = (nI V - 1).toInt := by
    rw [q_sub, l1] <;> rw [l1, q_tn (by omega)] <;> omega
  rcases h.all.jou.on with ⟨q1, q2⟩ | ⟨q1, q2⟩
  · rcases s_place vou a with ⟨p1, p2⟩ | ⟨j, jV, p1, p2⟩
    · refine qI_no h (t := 2) (by decide) ?_ ?_
      · simp only [F_l_redeem, F_b_redeem, c_on q1, q_bl, p1, q_bd, vou.cnt, c_ii hV]
        rw [show q_w (-1) 0 (nI V - 1) = 0 from rfl]
        rfl
      · simp only [F_m_redeem, p2, q2, m_f0, q_bd, if_true, b_m_redeem_29, m_f1, one_ne, if_false, g_pp]
    · have jm : ¬ nI j = -1 := by rw [← Int32.toInt_inj, q_tn (by omega), show (-1 : Int32).toInt = -1 from rfl]; omega
      have w : q_w (nI j) 0 (nI V - 1) = 1 := q_w1 (by rw [q_tn (by omega), l0]; omega) (by rw [← hV, q_tn (by omega), q_tn (by omega)]; omega)
      have ib : f_ib (nI j) 60 = true := q_ib (by omega) (by decide)
      have ix : f_ix (nI j) = j := q_ix (by omega)
      by_cases r : f_gI c 22 0 j = 0
      · have r' : f_gI (f_pI m 30 0 25 0) 39 0 j = 0 := by (try simp (disch := omega) only [g_eq, g_ne, g_R, g_O, g_IR, g_IO, g_RO, g_OO, g_OR, g_RRe, g_RRn]); rw [← vou.red j jV]; exact r
        refine qI_yes (c' := f_pI c 22 0 j 1) (m' := f_pI (f_pI m 30 0 25 0) 39 0 j 1) (N' := N) (e' := e) (K' := K) (v := f_gI m 38 0 j) (x := (f_gI c 21 0 j).toInt64) ?_ ?_ (by rw [vou.sum j jV]) (by (try simp (disch := omega) only [g_eq, g_ne, g_R, g_O, g_IR, g_IO, g_RO, g_OO, g_OR, g_RRe, g_RRn])) (by omega) (by omega) ?_ (fC.rfl.put (by decide)) ((fM.rfl.put (by decide)).put (by decide))
        · simp only [F_l_redeem, F_b_redeem, c_on q1, q_bl, p1, q_bd, vou.cnt, c_ii hV, w, c_rq1, F_vo_payOut, q_gd ib, ix, r, if_true]
          (try simp (disch := omega) only [g_eq, g_ne, g_R, g_O, g_IR, g_IO, g_RO, g_OO, g_OR, g_RRe, g_RRn])
        · simp only [F_m_redeem, p2, q2, m_f0, q_bd, if_true, jm, if_false, b_m_redeem_29, q_gd ib, ix, g_pp, r']
          (try simp (disch := omega) only [g_eq, g_ne, g_R, g_O, g_IR, g_IO, g_RO, g_OO, g_OR, g_RRe, g_RRn])
        · obtain ⟨e5, K9, cat, belt, bins, _, jou, ⟨t, s, lat⟩, tot, mon⟩ := h.all
          refine rRel.mk (rAll.mk e5 K9 ?_ ?_ ?_ (⟨V, ?_⟩) ?_ ?_ ?_ ?_) ?_ ?_
          any_goals (first | exact rCat.to ‹_› (by (intros; first | rfl | ((try simp (disch := omega) only [g_eq, g_ne, g_R, g_O, g_IR, g_IO, g_RO, g_OO, g_OR, g_RRe, g_RRn]); done) | fail)) (by (intros; first | rfl | ((try simp (disch := omega) only [g_eq, g_ne, g_R, g_O, g_IR, g_IO, g_RO, g_OO, g_OR, g_RRe, g_RRn]); done) | fail)) | exact rBelt.to ‹_› (by (intros; first | rfl | ((try simp (disch := omega) only [g_eq, g_ne, g_R, g_O, g_IR, g_IO, g_RO, g_OO, g_OR, g_RRe, g_RRn]); done) | fail)) (by (intros; first | rfl | ((try simp (disch := omega) only [g_eq, g_ne, g_R, g_O, g_IR, g_IO, g_RO, g_OO, g_OR, g_RRe, g_RRn]); done) | fail)) (by (intros; first | rfl | ((try simp (disch := omega) only [g_eq, g_ne, g_R, g_O, g_IR, g_IO, g_RO, g_OO, g_OR, g_RRe, g_RRn]); done) | fail)) (by (intros; first | rfl | ((try simp (disch := omega) only [g_eq, g_ne, g_R, g_O, g_IR, g_IO, g_RO, g_OO, g_OR, g_RRe, g_RRn]); done) | fail)) (by (intros; first | rfl | ((try simp (disch := omega) only [g_eq, g_ne, g_R, g_O, g_IR, g_IO, g_RO, g_OO, g_OR, g_RRe, g_RRn]); done) | fail)) | exact rBins.to ‹_› (by (intros; first | rfl | ((try simp (disch := omega) only [g_eq, g_ne, g_R, g_O, g_IR, g_IO, g_RO, g_OO, g_OR, g_RRe, g_RRn]); done) | fail)) (by (intros; first | rfl | ((try simp (disch := omega) only [g_eq, g_ne, g_R, g_O, g_IR, g_IO, g_RO, g_OO, g_OR, g_RRe, g_RRn]); done) | fail)) | exact ⟨_, rVou.to ‹_› (by (intros; first | rfl | ((try simp (disch := omega) only [g_eq, g_ne, g_R, g_O, g_IR, g_IO, g_RO, g_OO, g_OR, g_RRe, g_RRn]); done) | fail)) (by (intros; first | rfl | ((try simp (disch := omega) only [g_eq, g_ne, g_R, g_O, g_IR, g_IO, g_RO, g_OO, g_OR, g_RRe, g_RRn]); done) | fail)) (by (intros; first | rfl | ((try simp (disch := omega) only [g_eq, g_ne, g_R, g_O, g_IR, g_IO, g_RO, g_OO, g_OR, g_RRe, g_RRn]); done) | fail)) (by (intros; first | rfl | ((try simp (disch := omega) only [g_eq, g_ne, g_R, g_O, g_IR, g_IO, g_RO, g_OO, g_OR, g_RRe, g_RRn]); done) | fail)) (by (intros; first | rfl | ((try simp (disch := omega) only [g_eq, g_ne, g_R, g_O, g_IR, g_IO, g_RO, g_OO, g_OR, g_RRe, g_RRn]); done) | fail))⟩ | exact rJou.to ‹_› (by (intros; first | rfl | ((try simp (disch := omega) only [g_eq, g_ne, g_R, g_O, g_IR, g_IO, g_RO, g_OO, g_OR, g_RRe, g_RRn]); done) | fail)) (by (intros; first | rfl | ((try simp (disch := omega) only [g_eq, g_ne, g_R, g_O, g_IR, g_IO, g_RO, g_OO, g_OR, g_RRe, g_RRn]); done) | fail)) (by (intros; first | rfl | ((try simp (disch := omega) only [g_eq, g_ne, g_R, g_O, g_IR, g_IO, g_RO, g_OO, g_OR, g_RRe, g_RRn]); done) | fail)) (by (intros; first | rfl | ((try simp (disch := omega) only [g_eq, g_ne, g_R, g_O, g_IR, g_IO, g_RO, g_OO, g_OR, g_RRe, g_RRn]); done) | fail)) | exact ⟨_, _, rLat.to ‹_› (Nat.le_refl _) (by (intros; first | rfl | ((try simp (disch := omega) only [g_eq, g_ne, g_R, g_O, g_IR, g_IO, g_RO, g_OO, g_OR, g_RRe, g_RRn]); done) | fail)) (by (intros; first | rfl | ((try simp (disch := omega) only [g_eq, g_ne, g_R, g_O, g_IR, g_IO, g_RO, g_OO, g_OR, g_RRe, g_RRn]); done) | fail)) (by (intros; first | rfl | ((try simp (disch := omega) only [g_eq, g_ne, g_R, g_O, g_IR, g_IO, g_RO, g_OO, g_OR, g_RRe, g_RRn]); done) | fail))⟩ | exact rTot.to ‹_› (by (intros; first | rfl | ((try simp (disch := omega) only [g_eq, g_ne, g_R, g_O, g_IR, g_IO, g_RO, g_OO, g_OR, g_RRe, g_RRn]); done) | fail)) (by (intros; first | rfl | ((try simp (disch := omega) only [g_eq, g_ne, g_R, g_O, g_IR, g_IO, g_RO, g_OO, g_OR, g_RRe, g_RRn]); done) | fail)) (by (intros; first | rfl | ((try simp (disch := omega) only [g_eq, g_ne, g_R, g_O, g_IR, g_IO, g_RO, g_OO, g_OR, g_RRe, g_RRn]); done) | fail)) (by (intros; first | rfl | ((try simp (disch := omega) only [g_eq, g_ne, g_R, g_O, g_IR, g_IO, g_RO, g_OO, g_OR, g_RRe, g_RRn]); done) | fail)) (by (intros; first | rfl | ((try simp (disch := omega) only [g_eq, g_ne, g_R, g_O, g_IR, g_IO, g_RO, g_OO, g_OR, g_RRe, g_RRn]); done) | fail)) (by (intros; first | rfl | ((try simp (disch := omega) only [g_eq, g_ne, g_R, g_O, g_IR, g_IO, g_RO, g_OO, g_OR, g_RRe, g_RRn]); done) | fail)) (by (intros; first | rfl | ((try simp (disch := omega) only [g_eq, g_ne, g_R, g_O, g_IR, g_IO, g_RO, g_OO, g_OR, g_RRe, g_RRn]); done) | fail)) (by (intros; first | rfl | ((try simp (disch := omega) only [g_eq, g_ne, g_R, g_O, g_IR, g_IO, g_RO, g_OO, g_OR, g_RRe, g_RRn]); done) | fail)) | exact rMon.to ‹_› (Nat.le_refl _) (by (intros; first | rfl | ((try simp (disch := omega) only [g_eq, g_ne, g_R, g_O, g_IR, g_IO, g_RO, g_OO, g_OR, g_RRe, g_RRn]); done) | fail)) (by (intros; first | rfl | ((try simp (disch := omega) only [g_eq, g_ne, g_R, g_O, g_IR, g_IO, g_RO, g_OO, g_OR, g_RRe, g_RRn]); done) | fail)) (by (intros; first | rfl | ((try simp (disch := omega) only [g_eq, g_ne, g_R, g_O, g_IR, g_IO, g_RO, g_OO, g_OR, g_RRe, g_RRn]); done) | fail)) | fail)
          · have := vou.cnt
            refine rVou.mk ?_ ?_ ?_ ?_ ?_ ?_ ?_ ?_ ?_ ?_ ?_ ?_ ?_
            · exact v60
            · (try simp (disch := omega) only [g_eq, g_ne, g_R, g_O, g_IR, g_IO, g_RO, g_OO, g_OR, g_RRe, g_RRn]); exact vou.cnt
            · (try simp (disch := omega) only [g_eq, g_ne, g_R, g_O, g_IR, g_IO, g_RO, g_OO, g_OR, g_RRe, g_RRn]); exact vou.siz
            · (try simp (disch := omega) only [g_eq, g_ne, g_R, g_O, g_IR, g_IO, g_RO, g_OO, g_OR, g_RRe, g_RRn]); exact vou.ser
            · (try simp (disch := omega) only [g_eq, g_ne, g_R, g_O, g_IR, g_IO, g_RO, g_OO, g_OR, g_RRe, g_RRn]); exact vou.iss
            · (try simp (disch := omega) only [g_eq, g_ne, g_R, g_O, g_IR, g_IO, g_RO, g_OO, g_OR, g_RRe, g_RRn]); exact vou.se0
            · (try simp (disch := omega) only [g_eq, g_ne, g_R, g_O, g_IR, g_IO, g_RO, g_OO, g_OR, g_RRe, g_RRn]); exact vou.se1
            · intro i hi; (try simp (disch := omega) only [g_eq, g_ne, g_R, g_O, g_IR, g_IO, g_RO, g_OO, g_OR, g_RRe, g_RRn]); exact vou.num i hi
            · intro i hi; (try simp (disch := omega) only [g_eq, g_ne, g_R, g_O, g_IR, g_IO, g_RO, g_OO, g_OR, g_RRe, g_RRn]); exact vou.sum i hi
            · intro i hi
              by_cases q : i = j
              · subst q; (try simp (disch := omega) only [g_eq, g_ne, g_R, g_O, g_IR, g_IO, g_RO, g_OO, g_OR, g_RRe, g_RRn])
              · (try simp (disch := omega) only [g_eq, g_ne, g_R, g_O, g_IR, g_IO, g_RO, g_OO, g_OR, g_RRe, g_RRn]); exact vou.red i hi
            · intro i hi; (try simp (disch := omega) only [g_eq, g_ne, g_R, g_O, g_IR, g_IO, g_RO, g_OO, g_OR, g_RRe, g_RRn]); exact vou.nok i hi
            · intro i hi; (try simp (disch := omega) only [g_eq, g_ne, g_R, g_O, g_IR, g_IO, g_RO, g_OO, g_OR, g_RRe, g_RRn]); exact vou.sok i hi
            · intro i hi
              by_cases q : i = j
              · subst q; (try simp (disch := omega) only [g_eq, g_ne, g_R, g_O, g_IR, g_IO, g_RO, g_OO, g_OR, g_RRe, g_RRn]); exact Or.inr trivial
              · (try simp (disch := omega) only [g_eq, g_ne, g_R, g_O, g_IR, g_IO, g_RO, g_OO, g_OR, g_RRe, g_RRn]); exact vou.rok i hi
          · (try simp (disch := omega) only [g_eq, g_ne, g_R, g_O, g_IR, g_IO, g_RO, g_OO, g_OR, g_RRe, g_RRn]); exact h.r110
          · (try simp (disch := omega) only [g_eq, g_ne, g_R, g_O, g_IR, g_IO, g_RO, g_OO, g_OR, g_RRe, g_RRn]); exact h.unp
      · have r' : ¬ f_gI (f_pI m 30 0 25 0) 39 0 j = 0 := by (try simp (disch := omega) only [g_eq, g_ne, g_R, g_O, g_IR, g_IO, g_RO, g_OO, g_OR, g_RRe, g_RRn]); rw [← vou.red j jV]; exact r
        refine qI_yes (c' := c) (m' := f_pI m 30 0 25 0) (N' := N) (e' := e) (K' := K) (v := 0) (x := 0) ?_ ?_ rfl (by (try simp (disch := omega) only [g_eq, g_ne, g_R, g_O, g_IR, g_IO, g_RO, g_OO, g_OR, g_RRe, g_RRn])) (by omega) (by omega) h.thr fC.rfl (fM.rfl.put (by decide))
        · simp only [F_l_redeem, F_b_redeem, c_on q1, q_bl, p1, q_bd, vou.cnt, c_ii hV, w, c_rq1, F_vo_payOut, q_gd ib, ix, r, if_false]
          rfl
        · simp only [F_m_redeem, p2, q2, m_f0, q_bd, if_true, jm, if_false, b_m_redeem_29, q_gd ib, ix, g_pp, r']
  · have : ∃ v, F_m_voucherAt a m = some (v, m) := by
      rcases s_place vou a with ⟨p1, p2⟩ | ⟨j, jV, p1, p2⟩
      · exact ⟨_, p2⟩
      · exact ⟨_, p2⟩
    obtain ⟨v, hv⟩ := this
    refine qI_no h (t := 1) (by decide) ?_ ?_
    · simp only [F_l_redeem, F_b_redeem, c_off q1, q_br]; rfl
    · simp only [F_m_redeem, hv, q2, m_f1, q_bd, one_ne, if_false]
theorem o_container (a b : Int32) : qOk aI (F_l_container a b) (F_m_container a b) := by
  apply qOk.mk
  intro e K N c m he hK h
  have n13 := h.all.belt.n13
  rcases s_find h.all.belt a with ⟨p1, p2⟩ | ⟨j, jN, p1, p2⟩
  · refine qI_no h (t := 1) (by decide) ?_ ?_
    · simp only [F_l_container, F_b_container, p1, q_bd, f_cz, q_br]; rfl
    · simp only [F_m_container, p2, q_bd, if_true, b_m_container_22, b_m_container_27, m_f1, one_ne, if_false]
  have jm : ¬ nI j = -1 := by rw [← Int32.toInt_inj, q_tn (by omega), show (-1 : Int32).toInt = -1 from rfl]; omega
  have row := h.all.belt.row j jN
  have ok := h.all.belt.ok j jN
  have lt : f_gR c j < 16 := h.all.belt.rlt j (by omega)
  have j60 : j < 60 := by omega
  have fin : ∀ (x : Int32) (f : Nat) (hf : f < 20), F_b_container a b c = some (.inl x, c) → (x = f_gI m 34 0 (20 * j + f)) → q_w b 0 6 = 1 → b_m_container_27 b (nI j) 0 m = some (f_gI m 34 0 (20 * j + f), f_pI m 30 0 25 0) → qG aI (F_l_container a b) (F_m_container a b) e K c m := by
    intro x f hf hc hx hw hm
    refine qI_yes (c' := c) (m' := f_pI m 30 0 25 0) (N' := N) (e' := e) (K' := K) (v := f_gI m 34 0 (20 * j + f)) (x := x.toInt64) ?_ ?_ (by rw [hx]) (by (try simp (disch := omega) only [g_eq, g_ne, g_R, g_O, g_IR, g_IO, g_RO, g_OO, g_OR, g_RRe, g_RRn])) (by omega) (by omega) h.thr fC.rfl (fM.rfl.put (by decide))
    · simp only [F_l_container, hc, q_bl]
    · simp only [F_m_container, p2, q_bd, jm, if_false, m_wi, hw, one_ne, hm]
  rcases q_w01 b 0 6 with w | ⟨w, w1, w2⟩
  · have nb (k : Nat) (hk : k < 7) : ¬ b = nI k := by
      rintro rfl
      rw [q_w1] at w
      · cases w
      · rw [l0, q_tn (by omega)]; omega
      · rw [q_tn (by omega), show (6 : Int32).toInt = 6 from rfl]; omega
    refine qI_no h (t := 1) (by decide) ?_ ?_
    · simp only [F_l_container, F_b_container, p1, q_bd, f_cz, q_gd' lt, show ¬ b = 0 from nb 0 (by decide), show ¬ b = 1 from nb 1 (by decide), show ¬ b = 2 from nb 2 (by decide), show ¬ b = 3 from nb 3 (by decide), show ¬ b = 4 from nb 4 (by decide), show ¬ b = 5 from nb 5 (by decide), show ¬ b = 6 from nb 6 (by decide), if_false, q_br]; rfl
    · simp only [F_m_container, p2, q_bd, jm, if_false, m_wi, w, if_true, b_m_container_22, b_m_container_27, m_f1, one_ne]
  · have w1 : 0 ≤ b.toInt := w1
    have w2 : b.toInt ≤ 6 := w2
    have hb : b = 0 ∨ b = 1 ∨ b = 2 ∨ b = 3 ∨ b = 4 ∨ b = 5 ∨ b = 6 := by
      simp only [← Int32.toInt_inj, l0, l1, show (2 : Int32).toInt = 2 from rfl, show (3 : Int32).toInt = 3 from rfl, show (4 : Int32).toInt = 4 from rfl, show (5 : Int32).toInt = 5 from rfl, show (6 : Int32).toInt = 6 from rfl]; omega
    rcases hb with rfl | rfl | rfl | rfl | rfl | rfl | rfl
    · refine fin _ 2 (by decide) ?_ row.fro w ?_
      · simp only [F_b_container, p1, q_bd, f_cz, q_gd' lt]; rfl
      · simp only [b_m_container_27, m_f0, q_bd, if_true, m_g2 j60]; (try simp (disch := omega) only [g_eq, g_ne, g_R, g_O, g_IR, g_IO, g_RO, g_OO, g_OR, g_RRe, g_RRn])
    · refine fin _ 1 (by decide) ?_ row.len w ?_
      · simp only [F_b_container, p1, q_bd, f_cz, q_gd' lt]; rfl
      · simp only [b_m_container_27, m_f0, q_bd, if_true, m_g1 j60]; (try simp (disch := omega) only [g_eq, g_ne, g_R, g_O, g_IR, g_IO, g_RO, g_OO, g_OR, g_RRe, g_RRn]); rfl
    · refine fin _ 3 (by decide) ?_ row.jud w ?_
      · simp only [F_b_container, p1, q_bd, f_cz, q_gd' lt]; rfl
      · simp only [b_m_container_27, m_f0, q_bd, if_true, m_g3 j60]; (try simp (disch := omega) only [g_eq, g_ne, g_R, g_O, g_IR, g_IO, g_RO, g_OO, g_OR, g_RRe, g_RRn]); rfl
    · refine fin _ 4 (by decide) ?_ row.kin w ?_
      · simp only [F_b_container, p1, q_bd, f_cz, q_gd' lt]; rfl
      · simp only [b_m_container_27, m_f0, q_bd, if_true, m_g4 j60]; (try simp (disch := omega) only [g_eq, g_ne, g_R, g_O, g_IR, g_IO, g_RO, g_OO, g_OR, g_RRe, g_RRn]); rfl
    · refine fin (f_gI c 13 (f_gR c j) 8) 5 (by decide) ?_ row.pai w ?_
      · simp only [F_b_container, p1, q_bd, f_cz, q_gd' lt, F_b_asNumber]
        rcases ok.p01 with x | x <;> rw [x] <;> rfl
      · simp only [b_m_container_27, m_f0, q_bd, if_true, m_g5 j60]; (try simp (disch := omega) only [g_eq, g_ne, g_R, g_O, g_IR, g_IO, g_RO, g_OO, g_OR, g_RRe, g_RRn]); rfl
    · refine fin _ 7 (by decide) ?_ row.ncd w ?_
      · simp only [F_b_container, p1, q_bd, f_cz, q_gd' lt]; rfl
      · simp only [b_m_container_27, m_f0, q_bd, if_true, m_g7 j60]; (try simp (disch := omega) only [g_eq, g_ne, g_R, g_O, g_IR, g_IO, g_RO, g_OO, g_OR, g_RRe, g_RRn]); rfl
    · refine fin _ 8 (by decide) ?_ row.nwd w ?_
      · simp only [F_b_container, p1, q_bd, f_cz, q_gd' lt]; rfl
      · simp only [b_m_container_27, m_f0, q_bd, if_true, m_g8 j60]; (try simp (disch := omega) only [g_eq, g_ne, g_R, g_O, g_IR, g_IO, g_RO, g_OO, g_OR, g_RRe, g_RRn]); rfl
theorem o_total (a : Int32) : qOk aI (F_l_total a) (F_m_total a) := by
  apply qOk.mk
  intro e K N c m he hK h
  have tot := h.all.tot
  obtain ⟨V, vou⟩ := h.all.vou
  rcases q_w01 a 0 20 with w | ⟨w, w1, w2⟩
  · have nb (k : Nat) (hk : k < 21) : ¬ a = nI k := by
      rintro rfl
      rw [q_w1] at w
      · cases w
      · rw [l0, q_tn (by omega)]; omega
      · rw [q_tn (by omega), show (20 : Int32).toInt = 20 from rfl]; omega
    have w9 : q_w a 1 9 = 0 := by
      rcases q_w01 a 1 9 with x | ⟨x, x1, x2⟩
      · exact x
      · rw [q_w1] at w
        · cases w
        · have : (1 : Int32).toInt = 1 := rfl
          rw [l0]; omega
        · have : (9 : Int32).toInt = 9 := rfl
          have : (20 : Int32).toInt = 20 := rfl
          omega
    refine qI_no h (t := 1) (by decide) ?_ ?_
    · simp only [F_l_total, F_b_total, c_wi, w9, q_bd, if_true, show ¬ a = 0 from nb 0 (by decide), show ¬ a = 10 from nb 10 (by decide), show ¬ a = 11 from nb 11 (by decide), show ¬ a = 12 from nb 12 (by decide), show ¬ a = 13 from nb 13 (by decide), show ¬ a = 14 from nb 14 (by decide), show ¬ a = 15 from nb 15 (by decide), show ¬ a = 16 from nb 16 (by decide), show ¬ a = 17 from nb 17 (by decide), show ¬ a = 18 from nb 18 (by decide), show ¬ a = 19 from nb 19 (by decide), show ¬ a = 20 from nb 20 (by decide), if_false, q_br]; (try rfl)
    · simp only [F_m_total, m_wi, w, q_bd, if_true, b_m_total_16, m_f1, one_ne, if_false]
  have w1 : 0 ≤ a.toInt := w1
  have w2 : a.toInt ≤ 20 := w2
  have fin : ∀ (x y : Int32), F_b_total a c = some (.inl x, c) → F_m_total a m = some (y, f_pI m 30 0 25 0) → x = y → qG aI (F_l_total a) (F_m_total a) e K c m := by
    intro x y hc hm hx
    refine qI_yes (c' := c) (m' := f_pI m 30 0 25 0) (N' := N) (e' := e) (K' := K) (v := y) (x := x.toInt64) ?_ hm (by rw [hx]) (by (try simp (disch := omega) only [g_eq, g_ne, g_R, g_O, g_IR, g_IO, g_RO, g_OO, g_OR, g_RRe, g_RRn])) (by omega) (by omega) h.thr fC.rfl (fM.rfl.put (by decide))
    simp only [F_l_total, hc, q_bl]
  by_cases r : 1 ≤ a.toInt ∧ a.toInt ≤ 9
  · have w9 : q_w a 1 9 = 1 := q_w1 r.1 r.2
    have ix : f_ix a < 10 := by rw [q_ixz]; omega
    refine fin (f_gI c 26 0 (f_ix a)) (f_gI m 41 0 (f_ix a)) ?_ ?_ (tot.ref _ ix)
    · simp only [F_b_total, c_wi, w9, q_bd, one_ne, if_false, q_gd (q_ibz w1 (show a.toInt < (10 : Nat) by omega))]
    · simp only [F_m_total, m_wi, w, q_bd, one_ne, if_false, b_m_total_16, m_f0, if_true, q_gd (q_ibz w1 (show a.toInt < (10 : Nat) by omega))]
      rw [if_neg (by rw [Int32.le_iff_toInt_le, l0]; omega), if_neg (by rw [Int32.le_iff_toInt_le, show (10 : Int32).toInt = 10 from rfl]; omega)]
      (try simp (disch := omega) only [g_eq, g_ne, g_R, g_O, g_IR, g_IO, g_RO, g_OO, g_OR, g_RRe, g_RRn])
  · have hb : a = 0 ∨ a = 10 ∨ a = 11 ∨ a = 12 ∨ a = 13 ∨ a = 14 ∨ a = 15 ∨ a = 16 ∨ a = 17 ∨ a = 18 ∨ a = 19 ∨ a = 20 := by
      simp only [← Int32.toInt_inj, l0, show (10 : Int32).toInt = 10 from rfl, show (11 : Int32).toInt = 11 from rfl, show (12 : Int32).toInt = 12 from rfl, show (13 : Int32).toInt = 13 from rfl, show (14 : Int32).toInt = 14 from rfl, show (15 : Int32).toInt = 15 from rfl, show (16 : Int32).toInt = 16 from rfl, show (17 : Int32).toInt = 17 from rfl, show (18 : Int32).toInt = 18 from rfl, show (19 : Int32).toInt = 19 from rfl, show (20 : Int32).toInt = 20 from rfl]; omega
    rcases hb with rfl | rfl | rfl | rfl | rfl | rfl | rfl | rfl | rfl | rfl | rfl | rfl
    · exact fin _ _ rfl rfl (by (try simp (disch := omega) only [g_eq, g_ne, g_R, g_O, g_IR, g_IO, g_RO, g_OO, g_OR, g_RRe, g_RRn]); exact tot.cre)
    · exact fin _ _ rfl rfl (by (try simp (disch := omega) only [g_eq, g_ne, g_R, g_O, g_IR, g_IO, g_RO, g_OO, g_OR, g_RRe, g_RRn]); exact tot.pad)
    · exact fin _ _ rfl rfl (by (try simp (disch := omega) only [g_eq, g_ne, g_R, g_O, g_IR, g_IO, g_RO, g_OO, g_OR, g_RRe, g_RRn]); exact tot.sum)
    · exact fin _ _ rfl rfl (by (try simp (disch := omega) only [g_eq, g_ne, g_R, g_O, g_IR, g_IO, g_RO, g_OO, g_OR, g_RRe, g_RRn]); exact vou.iss)
    · exact fin _ _ rfl rfl (by (try simp (disch := omega) only [g_eq, g_ne, g_R, g_O, g_IR, g_IO, g_RO, g_OO, g_OR, g_RRe, g_RRn]); exact tot.giv)
    · exact fin _ _ rfl rfl (by (try simp (disch := omega) only [g_eq, g_ne, g_R, g_O, g_IR, g_IO, g_RO, g_OO, g_OR, g_RRe, g_RRn]); rw [vou.cnt, vou.siz])
    · exact fin _ _ rfl rfl (by (try simp (disch := omega) only [g_eq, g_ne, g_R, g_O, g_IR, g_IO, g_RO, g_OO, g_OR, g_RRe, g_RRn]); rw [h.all.belt.cnt, h.all.belt.siz])
    · rcases h.all.jou.on with ⟨q1, q2⟩ | ⟨q1, q2⟩
      · refine fin 1 1 ?_ ?_ rfl
        · have e : F_b_total 16 c = f_bd (F_b_asNumber (f_gI c 23 0 2) c) (fun w z => some (Sum.inl w, z)) := rfl
          rw [e, q1]; rfl
        · show (if f_gI (f_pI m 30 0 25 0) 30 0 17 = 0 then _ else _) = _
          (try simp (disch := omega) only [g_eq, g_ne, g_R, g_O, g_IR, g_IO, g_RO, g_OO, g_OR, g_RRe, g_RRn]); rw [q2]; rfl
      · refine fin 0 0 ?_ ?_ rfl
        · have e : F_b_total 16 c = f_bd (F_b_asNumber (f_gI c 23 0 2) c) (fun w z => some (Sum.inl w, z)) := rfl
          rw [e, q1]; rfl
        · show (if f_gI (f_pI m 30 0 25 0) 30 0 17 = 0 then _ else _) = _
          (try simp (disch := omega) only [g_eq, g_ne, g_R, g_O, g_IR, g_IO, g_RO, g_OO, g_OR, g_RRe, g_RRn]); rw [q2]; rfl
    · obtain ⟨v, v1, v2, v3⟩ := s_blocked (h.thr (v := 0)).all.belt
      have v01 : v = 0 ∨ v = 1 := by rcases v3 with x | x; exact Or.inl x.1; exact Or.inr x
      refine fin v v ?_ ?_ rfl
      · have e : F_b_total 17 c = f_bd (F_be_isBlocked c) (fun v z => f_bd (F_b_asNumber v z) (fun w z => some (Sum.inl w, z))) := rfl
        rw [e, v1]
        rcases v01 with rfl | rfl <;> rfl
      · have e : F_m_total 17 m = f_bd (F_m_isBlocked (f_pI m 30 0 25 0)) (fun v z => if v = 0 then some ((0 : Int32), z) else some (1, z)) := rfl
        rw [e, v2]
        rcases v01 with rfl | rfl <;> rfl
    · obtain ⟨v, v1, v2, v01⟩ := s_susp (h.thr (v := 0)).all.tot
      refine fin v v ?_ ?_ rfl
      · have e : F_b_total 18 c = f_bd (F_b_isSuspicious c) (fun v z => f_bd (F_b_asNumber v z) (fun w z => some (Sum.inl w, z))) := rfl
        rw [e, v1]
        rcases v01 with rfl | rfl <;> rfl
      · have e : F_m_total 18 m = f_bd (F_m_isSuspicious (f_pI m 30 0 25 0)) (fun v z => if v = 0 then some ((0 : Int32), z) else some (1, z)) := rfl
        rw [e, v2]
        rcases v01 with rfl | rfl <;> rfl
    · exact fin _ _ rfl rfl (by (try simp (disch := omega) only [g_eq, g_ne, g_R, g_O, g_IR, g_IO, g_RO, g_OO, g_OR, g_RRe, g_RRn]); exact h.all.jou.rcd)
    · exact fin _ _ rfl rfl (by (try simp (disch := omega) only [g_eq, g_ne, g_R, g_O, g_IR, g_IO, g_RO, g_OO, g_OR, g_RRe, g_RRn]); exact h.all.jou.cut)
