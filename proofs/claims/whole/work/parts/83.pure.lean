set_option linter.unusedVariables false
set_option linter.unusedSimpArgs false
/-! paying, and the way into the bin -/
theorem s_pay {e K N : Nat} {c m : fST} (h : rAll e K N c m) (hon : f_gI c 23 0 2 = 1) {j : Nat} (jN : j < N) (jd : f_gI c 13 (f_gR c j) 6 = 10) (np : f_gI c 13 (f_gR c j) 8 = 0) : ∃ c' m', F_b_pay (f_gR c j) c = some ((), c') ∧ F_m_pay (nI j) m = some ((), m') ∧ rAll e K N c' m' ∧ (∀ i f, (f ≠ 8 ∨ i ≠ f_gR c j) → f_gI c' 13 i f = f_gI c 13 i f) ∧ (∀ i, f_gR c' i = f_gR c i) ∧ fC c c' ∧ fM m m' ∧ f_gI m' 30 0 25 = f_gI m 30 0 25 := by
  have n13 := h.belt.n13
  have j60 : j < 60 := by omega
  have kv : 0 ≤ (f_gI c 13 (f_gR c j) 7).toInt ∧ (f_gI c 13 (f_gR c j) 7).toInt < 40 := by
    rcases (h.belt.ok j jN).kj with ⟨_, x⟩ | ⟨x, y, _⟩
    · exact absurd jd x
    · exact ⟨x, y⟩
  have hk := q_ex kv.1
  have k40 : (f_gI c 13 (f_gR c j) 7).toInt.toNat < 40 := by omega
  generalize (f_gI c 13 (f_gR c j) 7).toInt.toNat = k at hk k40
  have km := nI_m1 (show k < 2147483648 by omega)
  rcases s_write h hon with ⟨c1, m1, h1, h2, h3, h4, h5, h6, h7, h8, h9⟩ | ⟨c1, m1, h1, h2, h3, h4, h5, h6, h7, h8, h9⟩
  · refine ⟨c1, m1, ?_, ?_, h3, fun i f _ => h5 _ _ _ (by decide), h6, h7, h8, h9⟩
    · unfold F_b_pay; rw [hk, if_neg km, h1, q_bd, if_pos rfl]
    · unfold F_m_pay; rw [h2, q_bd, if_pos rfl]
  · obtain ⟨e5, K9, cat, belt, bins, ⟨V, vou⟩, jou, ⟨t, a, lat⟩, tot, mon⟩ := h3
    have er : f_gR c1 j = f_gR c j := h6 j
    have row := belt.row j jN
    have ok := belt.ok j jN
    have inj := belt.inj
    have rlt := belt.rlt
    have hk1 : f_gI c1 13 (f_gR c1 j) 7 = nI k := by rw [er, h5 _ _ _ (by decide)]; exact hk
    have np1 : f_gI c1 13 (f_gR c1 j) 8 = 0 := by rw [er, h5 _ _ _ (by decide)]; exact np
    have mk : f_gI m1 34 0 (20 * j + 4) = nI k := by rw [← row.kin]; exact hk1
    have nc := ok.nc2
    have nw := ok.nw2
    have dok := cat.dok k k40
    have p0 := mon.p0
    have pe := mon.pe
    have en := mon.en
    have c0 := mon.c0
    have cp := mon.cp
    have dd : f_gI m1 33 0 (6 * k + 1) = f_gI c1 3 0 k := (cat.dep k k40).symm
    have s7 : (f_gI c1 0 0 7 + f_gI c1 3 0 k).toInt = (f_gI c1 0 0 7).toInt + (f_gI c1 3 0 k).toInt := q_add (by omega) (by omega)
    have s8 : (f_gI c1 0 0 8 + 1).toInt = (f_gI c1 0 0 8).toInt + 1 := by rw [q_add, l1] <;> rw [l1] <;> omega
    rw [← er]
    generalize hp : f_gR c1 j = p at *
    refine ⟨f_pI (f_pI (f_pI (f_pI c1 13 p 8 1) 0 0 7 (f_gI c1 0 0 7 + f_gI c1 3 0 k)) 0 0 9 (f_gI c1 0 0 9 + f_gI c1 3 0 k)) 0 0 8 (f_gI c1 0 0 8 + 1), f_pI (f_pI (f_pI (f_pI m1 34 0 (20 * j + 5) 1) 30 0 8 (f_gI m1 30 0 8 + f_gI m1 33 0 (6 * k + 1))) 30 0 21 (f_gI m1 30 0 21 + 1)) 30 0 22 (f_gI m1 30 0 22 + f_gI m1 33 0 (6 * k + 1)), ?_, ?_, ?_, ?_, ?_, ?_, ?_, ?_⟩
    · unfold F_b_pay
      rw [er, hk, if_neg km, h1, q_bd, if_neg one_ne, ← er, hk1, q_gd (q_ib k40 (by decide)), q_ix (by omega)]
      (try simp (disch := omega) only [g_eq, g_ne, g_R, g_O, g_IR, g_IO, g_RO, g_OO, g_OR, g_RRe, g_RRn])
    · have b6 : (6 : Int32) * nI k + 1 = nI (6 * k + 1) := by rw [show (6 : Int32) = nI 6 from rfl, q_nm, q_n1]
      unfold F_m_pay
      rw [h2, q_bd, if_neg one_ne, m_g4 j60, q_bd, mk, b6, q_gd (q_ib (show 6 * k + 1 < 240 by omega) (by decide)), show (5 : Int32) = nI 5 from rfl, m_put (by omega), q_bd, q_ix (by omega)]
      (try simp (disch := omega) only [g_eq, g_ne, g_R, g_O, g_IR, g_IO, g_RO, g_OO, g_OR, g_RRe, g_RRn])
    · have belt2 := belt
      refine rAll.mk e5 K9 ?_ ?_ ?_ ?_ ?_ ?_ ?_ ?_
      any_goals (first | exact rCat.to ‹_› (by (intros; first | rfl | ((try simp (disch := omega) only [g_eq, g_ne, g_R, g_O, g_IR, g_IO, g_RO, g_OO, g_OR, g_RRe, g_RRn]); done) | fail)) (by (intros; first | rfl | ((try simp (disch := omega) only [g_eq, g_ne, g_R, g_O, g_IR, g_IO, g_RO, g_OO, g_OR, g_RRe, g_RRn]); done) | fail)) | exact rBelt.to ‹_› (by (intros; first | rfl | ((try simp (disch := omega) only [g_eq, g_ne, g_R, g_O, g_IR, g_IO, g_RO, g_OO, g_OR, g_RRe, g_RRn]); done) | fail)) (by (intros; first | rfl | ((try simp (disch := omega) only [g_eq, g_ne, g_R, g_O, g_IR, g_IO, g_RO, g_OO, g_OR, g_RRe, g_RRn]); done) | fail)) (by (intros; first | rfl | ((try simp (disch := omega) only [g_eq, g_ne, g_R, g_O, g_IR, g_IO, g_RO, g_OO, g_OR, g_RRe, g_RRn]); done) | fail)) (by (intros; first | rfl | ((try simp (disch := omega) only [g_eq, g_ne, g_R, g_O, g_IR, g_IO, g_RO, g_OO, g_OR, g_RRe, g_RRn]); done) | fail)) (by (intros; first | rfl | ((try simp (disch := omega) only [g_eq, g_ne, g_R, g_O, g_IR, g_IO, g_RO, g_OO, g_OR, g_RRe, g_RRn]); done) | fail)) | exact rBins.to ‹_› (by (intros; first | rfl | ((try simp (disch := omega) only [g_eq, g_ne, g_R, g_O, g_IR, g_IO, g_RO, g_OO, g_OR, g_RRe, g_RRn]); done) | fail)) (by (intros; first | rfl | ((try simp (disch := omega) only [g_eq, g_ne, g_R, g_O, g_IR, g_IO, g_RO, g_OO, g_OR, g_RRe, g_RRn]); done) | fail)) | exact ⟨_, rVou.to ‹_› (by (intros; first | rfl | ((try simp (disch := omega) only [g_eq, g_ne, g_R, g_O, g_IR, g_IO, g_RO, g_OO, g_OR, g_RRe, g_RRn]); done) | fail)) (by (intros; first | rfl | ((try simp (disch := omega) only [g_eq, g_ne, g_R, g_O, g_IR, g_IO, g_RO, g_OO, g_OR, g_RRe, g_RRn]); done) | fail)) (by (intros; first | rfl | ((try simp (disch := omega) only [g_eq, g_ne, g_R, g_O, g_IR, g_IO, g_RO, g_OO, g_OR, g_RRe, g_RRn]); done) | fail)) (by (intros; first | rfl | ((try simp (disch := omega) only [g_eq, g_ne, g_R, g_O, g_IR, g_IO, g_RO, g_OO, g_OR, g_RRe, g_RRn]); done) | fail)) (by (intros; first | rfl | ((try simp (disch := omega) only [g_eq, g_ne, g_R, g_O, g_IR, g_IO, g_RO, g_OO, g_OR, g_RRe, g_RRn]); done) | fail))⟩ | exact rJou.to ‹_› (by (intros; first | rfl | ((try simp (disch := omega) only [g_eq, g_ne, g_R, g_O, g_IR, g_IO, g_RO, g_OO, g_OR, g_RRe, g_RRn]); done) | fail)) (by (intros; first | rfl | ((try simp (disch := omega) only [g_eq, g_ne, g_R, g_O, g_IR, g_IO, g_RO, g_OO, g_OR, g_RRe, g_RRn]); done) | fail)) (by (intros; first | rfl | ((try simp (disch := omega) only [g_eq, g_ne, g_R, g_O, g_IR, g_IO, g_RO, g_OO, g_OR, g_RRe, g_RRn]); done) | fail)) (by (intros; first | rfl | ((try simp (disch := omega) only [g_eq, g_ne, g_R, g_O, g_IR, g_IO, g_RO, g_OO, g_OR, g_RRe, g_RRn]); done) | fail)) | exact ⟨_, _, rLat.to ‹_› (Nat.le_refl _) (by (intros; first | rfl | ((try simp (disch := omega) only [g_eq, g_ne, g_R, g_O, g_IR, g_IO, g_RO, g_OO, g_OR, g_RRe, g_RRn]); done) | fail)) (by (intros; first | rfl | ((try simp (disch := omega) only [g_eq, g_ne, g_R, g_O, g_IR, g_IO, g_RO, g_OO, g_OR, g_RRe, g_RRn]); done) | fail)) (by (intros; first | rfl | ((try simp (disch := omega) only [g_eq, g_ne, g_R, g_O, g_IR, g_IO, g_RO, g_OO, g_OR, g_RRe, g_RRn]); done) | fail))⟩ | exact rTot.to ‹_› (by (intros; first | rfl | ((try simp (disch := omega) only [g_eq, g_ne, g_R, g_O, g_IR, g_IO, g_RO, g_OO, g_OR, g_RRe, g_RRn]); done) | fail)) (by (intros; first | rfl | ((try simp (disch := omega) only [g_eq, g_ne, g_R, g_O, g_IR, g_IO, g_RO, g_OO, g_OR, g_RRe, g_RRn]); done) | fail)) (by (intros; first | rfl | ((try simp (disch := omega) only [g_eq, g_ne, g_R, g_O, g_IR, g_IO, g_RO, g_OO, g_OR, g_RRe, g_RRn]); done) | fail)) (by (intros; first | rfl | ((try simp (disch := omega) only [g_eq, g_ne, g_R, g_O, g_IR, g_IO, g_RO, g_OO, g_OR, g_RRe, g_RRn]); done) | fail)) (by (intros; first | rfl | ((try simp (disch := omega) only [g_eq, g_ne, g_R, g_O, g_IR, g_IO, g_RO, g_OO, g_OR, g_RRe, g_RRn]); done) | fail)) (by (intros; first | rfl | ((try simp (disch := omega) only [g_eq, g_ne, g_R, g_O, g_IR, g_IO, g_RO, g_OO, g_OR, g_RRe, g_RRn]); done) | fail)) (by (intros; first | rfl | ((try simp (disch := omega) only [g_eq, g_ne, g_R, g_O, g_IR, g_IO, g_RO, g_OO, g_OR, g_RRe, g_RRn]); done) | fail)) (by (intros; first | rfl | ((try simp (disch := omega) only [g_eq, g_ne, g_R, g_O, g_IR, g_IO, g_RO, g_OO, g_OR, g_RRe, g_RRn]); done) | fail)) | exact rMon.to ‹_› (Nat.le_refl _) (by (intros; first | rfl | ((try simp (disch := omega) only [g_eq, g_ne, g_R, g_O, g_IR, g_IO, g_RO, g_OO, g_OR, g_RRe, g_RRn]); done) | fail)) (by (intros; first | rfl | ((try simp (disch := omega) only [g_eq, g_ne, g_R, g_O, g_IR, g_IO, g_RO, g_OO, g_OR, g_RRe, g_RRn]); done) | fail)) (by (intros; first | rfl | ((try simp (disch := omega) only [g_eq, g_ne, g_R, g_O, g_IR, g_IO, g_RO, g_OO, g_OR, g_RRe, g_RRn]); done) | fail)) | fail)
      · refine belt.upd jN (by (intros; first | rfl | ((try simp (disch := omega) only [g_eq, g_ne, g_R, g_O, g_IR, g_IO, g_RO, g_OO, g_OR, g_RRe, g_RRn]); done) | fail)) (by (intros; first | rfl | ((try simp (disch := omega) only [g_eq, g_ne, g_R, g_O, g_IR, g_IO, g_RO, g_OO, g_OR, g_RRe, g_RRn]); done) | fail)) ?_ (by (intros; first | rfl | ((try simp (disch := omega) only [g_eq, g_ne, g_R, g_O, g_IR, g_IO, g_RO, g_OO, g_OR, g_RRe, g_RRn]); done) | fail)) (by (intros; first | rfl | ((try simp (disch := omega) only [g_eq, g_ne, g_R, g_O, g_IR, g_IO, g_RO, g_OO, g_OR, g_RRe, g_RRn]); done) | fail)) (by (intros; first | rfl | ((try simp (disch := omega) only [g_eq, g_ne, g_R, g_O, g_IR, g_IO, g_RO, g_OO, g_OR, g_RRe, g_RRn]); done) | fail)) ?_ ?_ (by (intros; first | rfl | ((try simp (disch := omega) only [g_eq, g_ne, g_R, g_O, g_IR, g_IO, g_RO, g_OO, g_OR, g_RRe, g_RRn]); done) | fail)) (by (intros; first | rfl | ((try simp (disch := omega) only [g_eq, g_ne, g_R, g_O, g_IR, g_IO, g_RO, g_OO, g_OR, g_RRe, g_RRn]); done) | fail))
        · rw [hp]; (intros; first | rfl | ((try simp (disch := omega) only [g_eq, g_ne, g_R, g_O, g_IR, g_IO, g_RO, g_OO, g_OR, g_RRe, g_RRn]); done) | fail)
        · rw [hp]
          refine rRow.mk ?_ ?_ ?_ ?_ ?_ ?_ ?_ ?_ ?_ ?_ ?_
          · (try simp (disch := omega) only [g_eq, g_ne, g_R, g_O, g_IR, g_IO, g_RO, g_OO, g_OR, g_RRe, g_RRn]); exact row.num
          · (try simp (disch := omega) only [g_eq, g_ne, g_R, g_O, g_IR, g_IO, g_RO, g_OO, g_OR, g_RRe, g_RRn]); exact row.len
          · (try simp (disch := omega) only [g_eq, g_ne, g_R, g_O, g_IR, g_IO, g_RO, g_OO, g_OR, g_RRe, g_RRn]); exact row.fro
          · (try simp (disch := omega) only [g_eq, g_ne, g_R, g_O, g_IR, g_IO, g_RO, g_OO, g_OR, g_RRe, g_RRn]); exact row.jud
          · (try simp (disch := omega) only [g_eq, g_ne, g_R, g_O, g_IR, g_IO, g_RO, g_OO, g_OR, g_RRe, g_RRn]); exact row.kin
          · (try simp (disch := omega) only [g_eq, g_ne, g_R, g_O, g_IR, g_IO, g_RO, g_OO, g_OR, g_RRe, g_RRn])
          · (try simp (disch := omega) only [g_eq, g_ne, g_R, g_O, g_IR, g_IO, g_RO, g_OO, g_OR, g_RRe, g_RRn]); exact row.wei
          · (try simp (disch := omega) only [g_eq, g_ne, g_R, g_O, g_IR, g_IO, g_RO, g_OO, g_OR, g_RRe, g_RRn]); exact row.ncd
          · (try simp (disch := omega) only [g_eq, g_ne, g_R, g_O, g_IR, g_IO, g_RO, g_OO, g_OR, g_RRe, g_RRn]); exact row.nwd
          · intro i hi
            have hi : (i : Int) < (f_gI c1 14 p 1).toInt := by revert hi; (try simp (disch := omega) only [g_eq, g_ne, g_R, g_O, g_IR, g_IO, g_RO, g_OO, g_OR, g_RRe, g_RRn]); exact id
            (try simp (disch := omega) only [g_eq, g_ne, g_R, g_O, g_IR, g_IO, g_RO, g_OO, g_OR, g_RRe, g_RRn]); exact row.cds i hi
          · intro i hi
            have hi : (i : Int) < (f_gI c1 14 (p + 16) 1).toInt := by revert hi; (try simp (disch := omega) only [g_eq, g_ne, g_R, g_O, g_IR, g_IO, g_RO, g_OO, g_OR, g_RRe, g_RRn]); exact id
            (try simp (disch := omega) only [g_eq, g_ne, g_R, g_O, g_IR, g_IO, g_RO, g_OO, g_OR, g_RRe, g_RRn]); exact row.wds i hi
        · rw [hp]
          refine rOk.mk ?_ ?_ ?_ ?_ ?_ ?_ ?_ ?_ ?_ ?_ ?_ ?_
          · (try simp (disch := omega) only [g_eq, g_ne, g_R, g_O, g_IR, g_IO, g_RO, g_OO, g_OR, g_RRe, g_RRn]); exact ok.ln1
          · (try simp (disch := omega) only [g_eq, g_ne, g_R, g_O, g_IR, g_IO, g_RO, g_OO, g_OR, g_RRe, g_RRn]); exact ok.ln2
          · (try simp (disch := omega) only [g_eq, g_ne, g_R, g_O, g_IR, g_IO, g_RO, g_OO, g_OR, g_RRe, g_RRn]); exact ok.nc1
          · (try simp (disch := omega) only [g_eq, g_ne, g_R, g_O, g_IR, g_IO, g_RO, g_OO, g_OR, g_RRe, g_RRn]); exact ok.nc2
          · (try simp (disch := omega) only [g_eq, g_ne, g_R, g_O, g_IR, g_IO, g_RO, g_OO, g_OR, g_RRe, g_RRn]); exact ok.nw1
          · (try simp (disch := omega) only [g_eq, g_ne, g_R, g_O, g_IR, g_IO, g_RO, g_OO, g_OR, g_RRe, g_RRn]); exact ok.nw2
          · (try simp (disch := omega) only [g_eq, g_ne, g_R, g_O, g_IR, g_IO, g_RO, g_OO, g_OR, g_RRe, g_RRn]); exact ok.kj
          · (try simp (disch := omega) only [g_eq, g_ne, g_R, g_O, g_IR, g_IO, g_RO, g_OO, g_OR, g_RRe, g_RRn]); right; trivial
          · (try simp (disch := omega) only [g_eq, g_ne, g_R, g_O, g_IR, g_IO, g_RO, g_OO, g_OR, g_RRe, g_RRn]); exact ok.fr0
          · (try simp (disch := omega) only [g_eq, g_ne, g_R, g_O, g_IR, g_IO, g_RO, g_OO, g_OR, g_RRe, g_RRn]); exact ok.fr1
          · (try simp (disch := omega) only [g_eq, g_ne, g_R, g_O, g_IR, g_IO, g_RO, g_OO, g_OR, g_RRe, g_RRn]); exact ok.f105
          · (try simp (disch := omega) only [g_eq, g_ne, g_R, g_O, g_IR, g_IO, g_RO, g_OO, g_OR, g_RRe, g_RRn]); exact ok.k60
      · refine rTot.mk ?_ ?_ ?_ ?_ ?_ ?_
        · (try simp (disch := omega) only [g_eq, g_ne, g_R, g_O, g_IR, g_IO, g_RO, g_OO, g_OR, g_RRe, g_RRn]); rw [dd, tot.cre]
        · (try simp (disch := omega) only [g_eq, g_ne, g_R, g_O, g_IR, g_IO, g_RO, g_OO, g_OR, g_RRe, g_RRn]); rw [tot.pad]
        · (try simp (disch := omega) only [g_eq, g_ne, g_R, g_O, g_IR, g_IO, g_RO, g_OO, g_OR, g_RRe, g_RRn]); rw [dd, tot.sum]
        · (try simp (disch := omega) only [g_eq, g_ne, g_R, g_O, g_IR, g_IO, g_RO, g_OO, g_OR, g_RRe, g_RRn]); exact tot.giv
        · (try simp (disch := omega) only [g_eq, g_ne, g_R, g_O, g_IR, g_IO, g_RO, g_OO, g_OR, g_RRe, g_RRn]); exact tot.sus
        · intro i hi; (try simp (disch := omega) only [g_eq, g_ne, g_R, g_O, g_IR, g_IO, g_RO, g_OO, g_OR, g_RRe, g_RRn]); exact tot.ref i hi
      · have u1 : rU c1 j = 1 := by unfold rU; rw [hp, if_pos np1]
        have u2 : rU (f_pI (f_pI (f_pI (f_pI c1 13 p 8 1) 0 0 7 (f_gI c1 0 0 7 + f_gI c1 3 0 k)) 0 0 9 (f_gI c1 0 0 9 + f_gI c1 3 0 k)) 0 0 8 (f_gI c1 0 0 8 + 1)) j = 0 := by
          unfold rU; (try simp (disch := omega) only [g_eq, g_ne, g_R, g_O, g_IR, g_IO, g_RO, g_OO, g_OR, g_RRe, g_RRn]); rw [hp]; (try simp (disch := omega) only [g_eq, g_ne, g_R, g_O, g_IR, g_IO, g_RO, g_OO, g_OR, g_RRe, g_RRn]); rfl
        have u3 := q_sm_upd (f := rU c1) (h := rU (f_pI (f_pI (f_pI (f_pI c1 13 p 8 1) 0 0 7 (f_gI c1 0 0 7 + f_gI c1 3 0 k)) 0 0 9 (f_gI c1 0 0 9 + f_gI c1 3 0 k)) 0 0 8 (f_gI c1 0 0 8 + 1))) (i := j) N jN (by
          intro i hi ne
          have : f_gR c1 i ≠ p := fun x => ne (inj i j (by omega) (by omega) (x.trans hp.symm))
          unfold rU; (try simp (disch := omega) only [g_eq, g_ne, g_R, g_O, g_IR, g_IO, g_RO, g_OO, g_OR, g_RRe, g_RRn]))
        refine rMon.mk ?_ ?_ ?_ ?_ ?_
        · (try simp (disch := omega) only [g_eq, g_ne, g_R, g_O, g_IR, g_IO, g_RO, g_OO, g_OR, g_RRe, g_RRn]); omega
        · (try simp (disch := omega) only [g_eq, g_ne, g_R, g_O, g_IR, g_IO, g_RO, g_OO, g_OR, g_RRe, g_RRn]); omega
        · (try simp (disch := omega) only [g_eq, g_ne, g_R, g_O, g_IR, g_IO, g_RO, g_OO, g_OR, g_RRe, g_RRn]); omega
        · (try simp (disch := omega) only [g_eq, g_ne, g_R, g_O, g_IR, g_IO, g_RO, g_OO, g_OR, g_RRe, g_RRn]); omega
        · (try simp (disch := omega) only [g_eq, g_ne, g_R, g_O, g_IR, g_IO, g_RO, g_OO, g_OR, g_RRe, g_RRn]); omega
    · intro i f x; (try simp (disch := omega) only [g_eq, g_ne, g_R, g_O, g_IR, g_IO, g_RO, g_OO, g_OR, g_RRe, g_RRn]); exact h5 _ _ _ (by decide)
    · intro i; (try simp (disch := omega) only [g_eq, g_ne, g_R, g_O, g_IR, g_IO, g_RO, g_OO, g_OR, g_RRe, g_RRn]); exact h6 i
    · exact (((h7.put (by decide)).put (by decide)).put (by decide)).put (by decide)
    · exact (((h8.put (by decide)).put (by decide)).put (by decide)).put (by decide)
    · (try simp (disch := omega) only [g_eq, g_ne, g_R, g_O, g_IR, g_IO, g_RO, g_OO, g_OR, g_RRe, g_RRn]); exact h9 _ _ _ (by omega)
/-- the class takes the place j off -/
theorem c_takeOff {z : fST} {N j : Nat} (cnt : f_gI z 11 0 1 = nI N) (jN : j < N) (n13 : N ≤ 13) (rlt : ∀ i, i < 16 → f_gR z i < 16) : ∃ s, F_be_takeOff (nI j) z = some ((), s) ∧ (∀ k i f, (k ≠ 11 ∨ f ≠ 1) → f_gI s k i f = f_gI z k i f) ∧ f_gI s 11 0 1 = nI (N - 1) ∧ (∀ a, a < j → f_gR s a = f_gR z a) ∧ (∀ a, j ≤ a → a < N - 1 → f_gR s a = f_gR z (a + 1)) ∧ f_gR s (N - 1) = f_gR z j ∧ (∀ a, N ≤ a → f_gR s a = f_gR z a) ∧ fC z s := by
  have key := q_loop (body := b_be_takeOff_19) (fun i s => (f_gR z j, nI i, s)) (N - 1) (fun i s => j ≤ i ∧ (∀ k b f, (k ≠ 11 ∨ f ≠ 1) → f_gI s k b f = f_gI z k b f) ∧ f_gI s 11 0 1 = nI (N - 1) ∧ (∀ a, a < j → f_gR s a = f_gR z a) ∧ (∀ a, j ≤ a → a < i → f_gR s a = f_gR z (a + 1)) ∧ (∀ a, i ≤ a → f_gR s a = f_gR z a) ∧ fC z s) (fun s => some ((), f_pR s (N - 1) (f_gR z j))) (by
    rintro k s ⟨_, h1, h2, h3, h4, h5, h6⟩
    simp only [b_be_takeOff_19, h2, Int32.le_refl, if_true, q_gd (q_ib (show N - 1 < 16 by omega) (by decide)), q_ix (show N - 1 < 2147483648 by omega)]) (by
    rintro i s hi ⟨ji, h1, h2, h3, h4, h5, h6⟩
    refine ⟨f_pR s i (f_gR z (i + 1)), ?_, by omega, h1, h2, ?_, ?_, ?_, h6⟩
    · intro k
      simp only [b_be_takeOff_19, h2, q_n1, q_ix (show i + 1 < 2147483648 by omega), q_ix (show i < 2147483648 by omega), q_gd (q_ib (show i + 1 < 16 by omega) (by decide)), q_gd (q_ib (show i < 16 by omega) (by decide)), h5 (i + 1) (by omega), q_gd' (rlt (i + 1) (by omega))]
      rw [if_neg (by rw [q_le (by omega) (by omega)]; omega)]
    · intro a ha; (try simp (disch := omega) only [g_eq, g_ne, g_R, g_O, g_IR, g_IO, g_RO, g_OO, g_OR, g_RRe, g_RRn]); exact h3 a ha
    · intro a h1 h2
      by_cases q : a = i
      · subst q; (try simp (disch := omega) only [g_eq, g_ne, g_R, g_O, g_IR, g_IO, g_RO, g_OO, g_OR, g_RRe, g_RRn])
      · (try simp (disch := omega) only [g_eq, g_ne, g_R, g_O, g_IR, g_IO, g_RO, g_OO, g_OR, g_RRe, g_RRn]); exact h4 a h1 (by omega)
    · intro a ha; (try simp (disch := omega) only [g_eq, g_ne, g_R, g_O, g_IR, g_IO, g_RO, g_OO, g_OR, g_RRe, g_RRn]); exact h5 a (by omega)) (N - 1 - j) j 2000 (f_pI z 11 0 1 (nI (N - 1))) (by omega) (by omega) ⟨Nat.le_refl _, by (intros; first | rfl | ((try simp (disch := omega) only [g_eq, g_ne, g_R, g_O, g_IR, g_IO, g_RO, g_OO, g_OR, g_RRe, g_RRn]); done) | fail), by (try simp (disch := omega) only [g_eq, g_ne, g_R, g_O, g_IR, g_IO, g_RO, g_OO, g_OR, g_RRe, g_RRn]), by (intros; first | rfl | ((try simp (disch := omega) only [g_eq, g_ne, g_R, g_O, g_IR, g_IO, g_RO, g_OO, g_OR, g_RRe, g_RRn]); done) | fail), by omega, by (intros; first | rfl | ((try simp (disch := omega) only [g_eq, g_ne, g_R, g_O, g_IR, g_IO, g_RO, g_OO, g_OR, g_RRe, g_RRn]); done) | fail), fC.rfl.put (by decide)⟩
  obtain ⟨s, ⟨_, h1, h2, h3, h4, h5, h6⟩, h7⟩ := key
  refine ⟨f_pR s (N - 1) (f_gR z j), ?_, h1, h2, ?_, ?_, by (try simp (disch := omega) only [g_eq, g_ne, g_R, g_O, g_IR, g_IO, g_RO, g_OO, g_OR, g_RRe, g_RRn]), ?_, h6⟩
  · unfold F_be_takeOff
    rw [q_gd (q_ib (show j < 16 by omega) (by decide)), q_ix (by omega), q_gd' (rlt j (by omega)), cnt, q_np (by omega)]
    exact h7
  · intro a ha; (try simp (disch := omega) only [g_eq, g_ne, g_R, g_O, g_IR, g_IO, g_RO, g_OO, g_OR, g_RRe, g_RRn]); exact h3 a ha
  · intro a x y; (try simp (disch := omega) only [g_eq, g_ne, g_R, g_O, g_IR, g_IO, g_RO, g_OO, g_OR, g_RRe, g_RRn]); exact h4 a x y
  · intro a ha; (try simp (disch := omega) only [g_eq, g_ne, g_R, g_O, g_IR, g_IO, g_RO, g_OO, g_OR, g_RRe, g_RRn]); exact h5 a (by omega)
/-- the reference takes the row j off -/
theorem m_remove {m : fST} {N j : Nat} (siz : f_gI m 30 0 4 = nI N) (jN : j < N) (n13 : N ≤ 13) : ∃ s, F_m_remove (nI j) m = some ((), s) ∧ f_gI s 30 0 4 = nI (N - 1) ∧ (∀ k i f, k ≠ 34 → (k ≠ 30 ∨ f ≠ 4) → f_gI s k i f = f_gI m k i f) ∧ (∀ x, x < 20 * j → f_gI s 34 0 x = f_gI m 34 0 x) ∧ (∀ x, 20 * j ≤ x → x < 20 * (N - 1) → f_gI s 34 0 x = f_gI m 34 0 (x + 20)) ∧ fM m s := by
  have key := q_loop (body := b_m_remove_15) (fun i s => (nI i, s)) (20 * (N - 1)) (fun i s => 20 * j ≤ i ∧ f_gI s 30 0 4 = nI (N - 1) ∧ (∀ k b f, k ≠ 34 → (k ≠ 30 ∨ f ≠ 4) → f_gI s k b f = f_gI m k b f) ∧ (∀ x, x < 20 * j → f_gI s 34 0 x = f_gI m 34 0 x) ∧ (∀ x, 20 * j ≤ x → x < i → f_gI s 34 0 x = f_gI m 34 0 (x + 20)) ∧ (∀ x, i ≤ x → f_gI s 34 0 x = f_gI m 34 0 x) ∧ fM m s) (fun s => some ((), s)) (by
    rintro k s ⟨_, h1, _⟩
    have e : (20 : Int32) * nI (N - 1) = nI (20 * (N - 1)) := by rw [show (20 : Int32) = nI 20 from rfl, q_nm]
    simp only [b_m_remove_15, h1, e, Int32.le_refl, if_true]) (by
    rintro i s hi ⟨ji, h1, h2, h3, h4, h5, h6⟩
    have e : (20 : Int32) * nI (N - 1) = nI (20 * (N - 1)) := by rw [show (20 : Int32) = nI 20 from rfl, q_nm]
    have e2 : nI i + 20 = nI (i + 20) := q_na i 20
    refine ⟨f_pI s 34 0 i (f_gI s 34 0 (i + 20)), ?_, by omega, by (try simp (disch := omega) only [g_eq, g_ne, g_R, g_O, g_IR, g_IO, g_RO, g_OO, g_OR, g_RRe, g_RRn]); exact h1, ?_, ?_, ?_, ?_, h6.put (by decide)⟩
    · intro k
      simp only [b_m_remove_15, h1, e, e2, q_gd (q_ib (show i + 20 < 1200 by omega) (by decide)), q_gd (q_ib (show i < 1200 by omega) (by decide)), q_ix (show i < 2147483648 by omega), q_ix (show i + 20 < 2147483648 by omega), q_n1]
      rw [if_neg (by rw [q_le (by omega) (by omega)]; omega)]
    · intro k b f x y; (try simp (disch := omega) only [g_eq, g_ne, g_R, g_O, g_IR, g_IO, g_RO, g_OO, g_OR, g_RRe, g_RRn]); exact h2 k b f x y
    · intro x hx; (try simp (disch := omega) only [g_eq, g_ne, g_R, g_O, g_IR, g_IO, g_RO, g_OO, g_OR, g_RRe, g_RRn]); exact h3 x hx
    · intro x a b
      by_cases q : x = i
      · subst q; (try simp (disch := omega) only [g_eq, g_ne, g_R, g_O, g_IR, g_IO, g_RO, g_OO, g_OR, g_RRe, g_RRn]); exact h5 _ (by omega)
      · (try simp (disch := omega) only [g_eq, g_ne, g_R, g_O, g_IR, g_IO, g_RO, g_OO, g_OR, g_RRe, g_RRn]); exact h4 x a (by omega)
    · intro x hx; (try simp (disch := omega) only [g_eq, g_ne, g_R, g_O, g_IR, g_IO, g_RO, g_OO, g_OR, g_RRe, g_RRn]); exact h5 x (by omega)) (20 * (N - 1) - 20 * j) (20 * j) 2000 (f_pI m 30 0 4 (nI (N - 1))) (by omega) (by omega) ⟨Nat.le_refl _, by (try simp (disch := omega) only [g_eq, g_ne, g_R, g_O, g_IR, g_IO, g_RO, g_OO, g_OR, g_RRe, g_RRn]), by (intros; first | rfl | ((try simp (disch := omega) only [g_eq, g_ne, g_R, g_O, g_IR, g_IO, g_RO, g_OO, g_OR, g_RRe, g_RRn]); done) | fail), by (intros; first | rfl | ((try simp (disch := omega) only [g_eq, g_ne, g_R, g_O, g_IR, g_IO, g_RO, g_OO, g_OR, g_RRe, g_RRn]); done) | fail), by omega, by (intros; first | rfl | ((try simp (disch := omega) only [g_eq, g_ne, g_R, g_O, g_IR, g_IO, g_RO, g_OO, g_OR, g_RRe, g_RRn]); done) | fail), fM.rfl.put (by decide)⟩
  obtain ⟨s, ⟨_, h1, h2, h3, h4, h5, h6⟩, h7⟩ := key
  refine ⟨s, ?_, h1, h2, h3, h4, h6⟩
  have e : (20 : Int32) * nI j = nI (20 * j) := by rw [show (20 : Int32) = nI 20 from rfl, q_nm]
  unfold F_m_remove
  rw [siz, q_np (by omega), e]
  exact h7
