set_option linter.unusedVariables false
set_option linter.unusedSimpArgs false
theorem s_forget {e K N : Nat} {c m : fST} (h : rAll e K N c m) {j : Nat} (jN : j < N) (fr : (f_gI c 13 (f_gR c j) 4).toInt < 105) : rAll e K N (f_pI (f_pI (f_pI (f_pI (f_pI c 14 (f_gR c j) 1 0) 14 (f_gR c j + 16) 1 0) 13 (f_gR c j) 5 (-1)) 13 (f_gR c j) 6 0) 13 (f_gR c j) 7 (-1)) (f_pI (f_pI (f_pI (f_pI (f_pI m 34 0 (20 * j + 3) 0) 34 0 (20 * j + 4) (-1)) 34 0 (20 * j + 6) (-1)) 34 0 (20 * j + 7) 0) 34 0 (20 * j + 8) 0) := by
  obtain ⟨e5, K9, cat, belt, bins, ⟨V, vou⟩, jou, ⟨t, a, lat⟩, tot, mon⟩ := h
  have row := belt.row j jN
  have ok := belt.ok j jN
  refine rAll.mk e5 K9 ?_ ?_ ?_ ?_ ?_ ?_ ?_ ?_
  any_goals (first | exact rCat.to ‹_› (by (intros; first | rfl | ((try simp (disch := omega) only [g_eq, g_ne, g_R, g_O, g_IR, g_IO, g_RO, g_OO, g_OR, g_RRe, g_RRn]); done) | fail)) (by (intros; first | rfl | ((try simp (disch := omega) only [g_eq, g_ne, g_R, g_O, g_IR, g_IO, g_RO, g_OO, g_OR, g_RRe, g_RRn]); done) | fail)) | exact rBelt.to ‹_› (by (intros; first | rfl | ((try simp (disch := omega) only [g_eq, g_ne, g_R, g_O, g_IR, g_IO, g_RO, g_OO, g_OR, g_RRe, g_RRn]); done) | fail)) (by (intros; first | rfl | ((try simp (disch := omega) only [g_eq, g_ne, g_R, g_O, g_IR, g_IO, g_RO, g_OO, g_OR, g_RRe, g_RRn]); done) | fail)) (by (intros; first | rfl | ((try simp (disch := omega) only [g_eq, g_ne, g_R, g_O, g_IR, g_IO, g_RO, g_OO, g_OR, g_RRe, g_RRn]); done) | fail)) (by (intros; first | rfl | ((try simp (disch := omega) only [g_eq, g_ne, g_R, g_O, g_IR, g_IO, g_RO, g_OO, g_OR, g_RRe, g_RRn]); done) | fail)) (by (intros; first | rfl | ((try simp (disch := omega) only [g_eq, g_ne, g_R, g_O, g_IR, g_IO, g_RO, g_OO, g_OR, g_RRe, g_RRn]); done) | fail)) | exact rBins.to ‹_› (by (intros; first | rfl | ((try simp (disch := omega) only [g_eq, g_ne, g_R, g_O, g_IR, g_IO, g_RO, g_OO, g_OR, g_RRe, g_RRn]); done) | fail)) (by (intros; first | rfl | ((try simp (disch := omega) only [g_eq, g_ne, g_R, g_O, g_IR, g_IO, g_RO, g_OO, g_OR, g_RRe, g_RRn]); done) | fail)) | exact ⟨_, rVou.to ‹_› (by (intros; first | rfl | ((try simp (disch := omega) only [g_eq, g_ne, g_R, g_O, g_IR, g_IO, g_RO, g_OO, g_OR, g_RRe, g_RRn]); done) | fail)) (by (intros; first | rfl | ((try simp (disch := omega) only [g_eq, g_ne, g_R, g_O, g_IR, g_IO, g_RO, g_OO, g_OR, g_RRe, g_RRn]); done) | fail)) (by (intros; first | rfl | ((try simp (disch := omega) only [g_eq, g_ne, g_R, g_O, g_IR, g_IO, g_RO, g_OO, g_OR, g_RRe, g_RRn]); done) | fail)) (by (intros; first | rfl | ((try simp (disch := omega) only [g_eq, g_ne, g_R, g_O, g_IR, g_IO, g_RO, g_OO, g_OR, g_RRe, g_RRn]); done) | fail)) (by (intros; first | rfl | ((try simp (disch := omega) only [g_eq, g_ne, g_R, g_O, g_IR, g_IO, g_RO, g_OO, g_OR, g_RRe, g_RRn]); done) | fail))⟩ | exact rJou.to ‹_› (by (intros; first | rfl | ((try simp (disch := omega) only [g_eq, g_ne, g_R, g_O, g_IR, g_IO, g_RO, g_OO, g_OR, g_RRe, g_RRn]); done) | fail)) (by (intros; first | rfl | ((try simp (disch := omega) only [g_eq, g_ne, g_R, g_O, g_IR, g_IO, g_RO, g_OO, g_OR, g_RRe, g_RRn]); done) | fail)) (by (intros; first | rfl | ((try simp (disch := omega) only [g_eq, g_ne, g_R, g_O, g_IR, g_IO, g_RO, g_OO, g_OR, g_RRe, g_RRn]); done) | fail)) (by (intros; first | rfl | ((try simp (disch := omega) only [g_eq, g_ne, g_R, g_O, g_IR, g_IO, g_RO, g_OO, g_OR, g_RRe, g_RRn]); done) | fail)) | exact ⟨_, _, rLat.to ‹_› (Nat.le_refl _) (by (intros; first | rfl | ((try simp (disch := omega) only [g_eq, g_ne, g_R, g_O, g_IR, g_IO, g_RO, g_OO, g_OR, g_RRe, g_RRn]); done) | fail)) (by (intros; first | rfl | ((try simp (disch := omega) only [g_eq, g_ne, g_R, g_O, g_IR, g_IO, g_RO, g_OO, g_OR, g_RRe, g_RRn]); done) | fail)) (by (intros; first | rfl | ((try simp (disch := omega) only [g_eq, g_ne, g_R, g_O, g_IR, g_IO, g_RO, g_OO, g_OR, g_RRe, g_RRn]); done) | fail))⟩ | exact rTot.to ‹_› (by (intros; first | rfl | ((try simp (disch := omega) only [g_eq, g_ne, g_R, g_O, g_IR, g_IO, g_RO, g_OO, g_OR, g_RRe, g_RRn]); done) | fail)) (by (intros; first | rfl | ((try simp (disch := omega) only [g_eq, g_ne, g_R, g_O, g_IR, g_IO, g_RO, g_OO, g_OR, g_RRe, g_RRn]); done) | fail)) (by (intros; first | rfl | ((try simp (disch := omega) only [g_eq, g_ne, g_R, g_O, g_IR, g_IO, g_RO, g_OO, g_OR, g_RRe, g_RRn]); done) | fail)) (by (intros; first | rfl | ((try simp (disch := omega) only [g_eq, g_ne, g_R, g_O, g_IR, g_IO, g_RO, g_OO, g_OR, g_RRe, g_RRn]); done) | fail)) (by (intros; first | rfl | ((try simp (disch := omega) only [g_eq, g_ne, g_R, g_O, g_IR, g_IO, g_RO, g_OO, g_OR, g_RRe, g_RRn]); done) | fail)) (by (intros; first | rfl | ((try simp (disch := omega) only [g_eq, g_ne, g_R, g_O, g_IR, g_IO, g_RO, g_OO, g_OR, g_RRe, g_RRn]); done) | fail)) (by (intros; first | rfl | ((try simp (disch := omega) only [g_eq, g_ne, g_R, g_O, g_IR, g_IO, g_RO, g_OO, g_OR, g_RRe, g_RRn]); done) | fail)) (by (intros; first | rfl | ((try simp (disch := omega) only [g_eq, g_ne, g_R, g_O, g_IR, g_IO, g_RO, g_OO, g_OR, g_RRe, g_RRn]); done) | fail)) | exact rMon.to ‹_› (Nat.le_refl _) (by (intros; first | rfl | ((try simp (disch := omega) only [g_eq, g_ne, g_R, g_O, g_IR, g_IO, g_RO, g_OO, g_OR, g_RRe, g_RRn]); done) | fail)) (by (intros; first | rfl | ((try simp (disch := omega) only [g_eq, g_ne, g_R, g_O, g_IR, g_IO, g_RO, g_OO, g_OR, g_RRe, g_RRn]); done) | fail)) (by (intros; first | rfl | ((try simp (disch := omega) only [g_eq, g_ne, g_R, g_O, g_IR, g_IO, g_RO, g_OO, g_OR, g_RRe, g_RRn]); done) | fail)) | fail)
  · refine belt.upd jN (by (intros; first | rfl | ((try simp (disch := omega) only [g_eq, g_ne, g_R, g_O, g_IR, g_IO, g_RO, g_OO, g_OR, g_RRe, g_RRn]); done) | fail)) (by (intros; first | rfl | ((try simp (disch := omega) only [g_eq, g_ne, g_R, g_O, g_IR, g_IO, g_RO, g_OO, g_OR, g_RRe, g_RRn]); done) | fail)) (by (intros; first | rfl | ((try simp (disch := omega) only [g_eq, g_ne, g_R, g_O, g_IR, g_IO, g_RO, g_OO, g_OR, g_RRe, g_RRn]); done) | fail)) (by (intros; first | rfl | ((try simp (disch := omega) only [g_eq, g_ne, g_R, g_O, g_IR, g_IO, g_RO, g_OO, g_OR, g_RRe, g_RRn]); done) | fail)) (by (intros; first | rfl | ((try simp (disch := omega) only [g_eq, g_ne, g_R, g_O, g_IR, g_IO, g_RO, g_OO, g_OR, g_RRe, g_RRn]); done) | fail)) (by (intros; first | rfl | ((try simp (disch := omega) only [g_eq, g_ne, g_R, g_O, g_IR, g_IO, g_RO, g_OO, g_OR, g_RRe, g_RRn]); done) | fail)) ?_ ?_ (by (intros; first | rfl | ((try simp (disch := omega) only [g_eq, g_ne, g_R, g_O, g_IR, g_IO, g_RO, g_OO, g_OR, g_RRe, g_RRn]); done) | fail)) (by (intros; first | rfl | ((try simp (disch := omega) only [g_eq, g_ne, g_R, g_O, g_IR, g_IO, g_RO, g_OO, g_OR, g_RRe, g_RRn]); done) | fail))
    · refine rRow.mk ?_ ?_ ?_ ?_ ?_ ?_ ?_ ?_ ?_ ?_ ?_
      · (try simp (disch := omega) only [g_eq, g_ne, g_R, g_O, g_IR, g_IO, g_RO, g_OO, g_OR, g_RRe, g_RRn]); exact row.num
      · (try simp (disch := omega) only [g_eq, g_ne, g_R, g_O, g_IR, g_IO, g_RO, g_OO, g_OR, g_RRe, g_RRn]); exact row.len
      · (try simp (disch := omega) only [g_eq, g_ne, g_R, g_O, g_IR, g_IO, g_RO, g_OO, g_OR, g_RRe, g_RRn]); exact row.fro
      · (try simp (disch := omega) only [g_eq, g_ne, g_R, g_O, g_IR, g_IO, g_RO, g_OO, g_OR, g_RRe, g_RRn])
      · (try simp (disch := omega) only [g_eq, g_ne, g_R, g_O, g_IR, g_IO, g_RO, g_OO, g_OR, g_RRe, g_RRn])
      · (try simp (disch := omega) only [g_eq, g_ne, g_R, g_O, g_IR, g_IO, g_RO, g_OO, g_OR, g_RRe, g_RRn]); exact row.pai
      · (try simp (disch := omega) only [g_eq, g_ne, g_R, g_O, g_IR, g_IO, g_RO, g_OO, g_OR, g_RRe, g_RRn])
      · (try simp (disch := omega) only [g_eq, g_ne, g_R, g_O, g_IR, g_IO, g_RO, g_OO, g_OR, g_RRe, g_RRn])
      · (try simp (disch := omega) only [g_eq, g_ne, g_R, g_O, g_IR, g_IO, g_RO, g_OO, g_OR, g_RRe, g_RRn])
      · intro i; (try simp (disch := omega) only [g_eq, g_ne, g_R, g_O, g_IR, g_IO, g_RO, g_OO, g_OR, g_RRe, g_RRn]); rw [l0]; intro x; omega
      · intro i; (try simp (disch := omega) only [g_eq, g_ne, g_R, g_O, g_IR, g_IO, g_RO, g_OO, g_OR, g_RRe, g_RRn]); rw [l0]; intro x; omega
    · refine rOk.mk ?_ ?_ ?_ ?_ ?_ ?_ ?_ ?_ ?_ ?_ ?_ ?_
      · (try simp (disch := omega) only [g_eq, g_ne, g_R, g_O, g_IR, g_IO, g_RO, g_OO, g_OR, g_RRe, g_RRn]); exact ok.ln1
      · (try simp (disch := omega) only [g_eq, g_ne, g_R, g_O, g_IR, g_IO, g_RO, g_OO, g_OR, g_RRe, g_RRn]); exact ok.ln2
      · (try simp (disch := omega) only [g_eq, g_ne, g_R, g_O, g_IR, g_IO, g_RO, g_OO, g_OR, g_RRe, g_RRn]); decide
      · (try simp (disch := omega) only [g_eq, g_ne, g_R, g_O, g_IR, g_IO, g_RO, g_OO, g_OR, g_RRe, g_RRn]); decide
      · (try simp (disch := omega) only [g_eq, g_ne, g_R, g_O, g_IR, g_IO, g_RO, g_OO, g_OR, g_RRe, g_RRn]); decide
      · (try simp (disch := omega) only [g_eq, g_ne, g_R, g_O, g_IR, g_IO, g_RO, g_OO, g_OR, g_RRe, g_RRn]); decide
      · (try simp (disch := omega) only [g_eq, g_ne, g_R, g_O, g_IR, g_IO, g_RO, g_OO, g_OR, g_RRe, g_RRn]); left; exact ⟨trivial, by decide⟩
      · (try simp (disch := omega) only [g_eq, g_ne, g_R, g_O, g_IR, g_IO, g_RO, g_OO, g_OR, g_RRe, g_RRn]); exact ok.p01
      · (try simp (disch := omega) only [g_eq, g_ne, g_R, g_O, g_IR, g_IO, g_RO, g_OO, g_OR, g_RRe, g_RRn]); exact ok.fr0
      · (try simp (disch := omega) only [g_eq, g_ne, g_R, g_O, g_IR, g_IO, g_RO, g_OO, g_OR, g_RRe, g_RRn]); exact ok.fr1
      · (try simp (disch := omega) only [g_eq, g_ne, g_R, g_O, g_IR, g_IO, g_RO, g_OO, g_OR, g_RRe, g_RRn]); intro x; omega
      · (try simp (disch := omega) only [g_eq, g_ne, g_R, g_O, g_IR, g_IO, g_RO, g_OO, g_OR, g_RRe, g_RRn]); intro _; trivial
  · exact mon.upd (Nat.le_refl _) (by (intros; first | rfl | ((try simp (disch := omega) only [g_eq, g_ne, g_R, g_O, g_IR, g_IO, g_RO, g_OO, g_OR, g_RRe, g_RRn]); done) | fail)) (by (intros; first | rfl | ((try simp (disch := omega) only [g_eq, g_ne, g_R, g_O, g_IR, g_IO, g_RO, g_OO, g_OR, g_RRe, g_RRn]); done) | fail)) (by (intros; first | rfl | ((try simp (disch := omega) only [g_eq, g_ne, g_R, g_O, g_IR, g_IO, g_RO, g_OO, g_OR, g_RRe, g_RRn]); done) | fail)) (by (intros; first | rfl | ((try simp (disch := omega) only [g_eq, g_ne, g_R, g_O, g_IR, g_IO, g_RO, g_OO, g_OR, g_RRe, g_RRn]); done) | fail))
/-- what the forgetting leaves -/
def fS (c c' : fST) : Prop := (∀ i f, (f = 3 ∨ f = 4 ∨ f = 8) → f_gI c' 13 i f = f_gI c 13 i f) ∧ (∀ i, f_gR c' i = f_gR c i) ∧ f_gI c' 23 0 2 = f_gI c 23 0 2 ∧ f_gI c' 23 0 0 = f_gI c 23 0 0
theorem s_forg {e K N : Nat} : ∀ d j c m n1 n2, j + d = N → d < n1 → d < n2 → rAll e K N c m → ∃ c' m', f_it b_be_forgetBefore_2 n1 (105, nI j, c) = some ((), c') ∧ (∀ x1, f_it b_m_power_26 n2 (x1, nI j, m) = f_it b_m_power_58 2000 (x1, 0, m')) ∧ rAll e K N c' m' ∧ fS c c' ∧ fC c c' ∧ fM m m' ∧ (∀ f, f_gI m' 30 0 f = f_gI m 30 0 f) := by
  intro d
  induction d with
  | zero =>
    intro j c m n1 n2 hj h1 h2 h
    obtain ⟨n1, rfl⟩ : ∃ q, n1 = q + 1 := ⟨n1 - 1, by omega⟩
    obtain ⟨n2, rfl⟩ : ∃ q, n2 = q + 1 := ⟨n2 - 1, by omega⟩
    obtain rfl : j = N := by omega
    refine ⟨c, m, ?_, ?_, h, ⟨by (intros; first | rfl | ((try simp (disch := omega) only [g_eq, g_ne, g_R, g_O, g_IR, g_IO, g_RO, g_OO, g_OR, g_RRe, g_RRn]); done) | fail), by (intros; first | rfl | ((try simp (disch := omega) only [g_eq, g_ne, g_R, g_O, g_IR, g_IO, g_RO, g_OO, g_OR, g_RRe, g_RRn]); done) | fail), rfl, rfl⟩, fC.rfl, fM.rfl, by (intros; first | rfl | ((try simp (disch := omega) only [g_eq, g_ne, g_R, g_O, g_IR, g_IO, g_RO, g_OO, g_OR, g_RRe, g_RRn]); done) | fail)⟩
    · show b_be_forgetBefore_2 _ _ = _
      simp only [b_be_forgetBefore_2, h.belt.cnt, Int32.le_refl, if_true]
    · intro x1
      show b_m_power_26 _ _ = _
      simp only [b_m_power_26, h.belt.siz, Int32.le_refl, if_true]
  | succ d ih =>
    intro j c m n1 n2 hj h1 h2 h
    obtain ⟨n1, rfl⟩ : ∃ q, n1 = q + 1 := ⟨n1 - 1, by omega⟩
    obtain ⟨n2, rfl⟩ : ∃ q, n2 = q + 1 := ⟨n2 - 1, by omega⟩
    have n13 := h.belt.n13
    have j60 : j < 60 := by omega
    have lt := h.belt.rlt j (by omega)
    have row := h.belt.row j (by omega)
    have nle : ¬ nI N ≤ nI j := by rw [q_le (by omega) (by omega)]; omega
    by_cases c105 : 105 ≤ (f_gI c 13 (f_gR c j) 4).toInt
    · have ge : (105 : Int32) ≤ f_gI c 13 (f_gR c j) 4 := by rw [Int32.le_iff_toInt_le]; exact c105
      obtain ⟨c', m', i1, i2, i3⟩ := ih (j + 1) c m n1 n2 (by omega) (by omega) (by omega) h
      refine ⟨c', m', ?_, ?_, i3⟩
      · show b_be_forgetBefore_2 _ _ = _
        simp only [b_be_forgetBefore_2, b_be_forgetBefore_32, h.belt.cnt, nle, if_false, q_gd (q_ib (show j < 16 by omega) (by decide)), q_ix (show j < 2147483648 by omega), q_gd' lt, ge, if_true, q_n1]
        exact i1
      · intro x1
        show b_m_power_26 _ _ = _
        simp only [b_m_power_26, b_m_power_50, h.belt.siz, nle, if_false, m_g2 j60, q_bd, ← row.fro, ge, if_true, q_n1]
        exact i2 x1
    · have nge : ¬ (105 : Int32) ≤ f_gI c 13 (f_gR c j) 4 := by rw [Int32.le_iff_toInt_le]; exact c105
      obtain ⟨c', m', i1, i2, i3, ⟨i4, i5, i6, i7⟩, i8, i9, i10⟩ := ih (j + 1) _ _ n1 n2 (by omega) (by omega) (by omega) (s_forget h (j := j) (by omega) (by omega))
      refine ⟨c', m', ?_, ?_, i3, ⟨?_, i5, ?_, ?_⟩, ?_, ?_, ?_⟩
      · show b_be_forgetBefore_2 _ _ = _
        simp only [b_be_forgetBefore_2, b_be_forgetBefore_32, h.belt.cnt, nle, if_false, q_gd (q_ib (show j < 16 by omega) (by decide)), q_ix (show j < 2147483648 by omega), q_gd' lt, nge, F_co_forget, q_bd, q_n1]
        exact i1
      · intro x1
        show b_m_power_26 _ _ = _
        simp only [b_m_power_26, b_m_power_50, h.belt.siz, nle, if_false, m_g2 j60, q_bd, ← row.fro, nge, m_forget j60, q_n1]
        exact i2 x1
      · intro i f hf; rw [i4 i f hf]; (try simp (disch := omega) only [g_eq, g_ne, g_R, g_O, g_IR, g_IO, g_RO, g_OO, g_OR, g_RRe, g_RRn])
      · rw [i6]; (try simp (disch := omega) only [g_eq, g_ne, g_R, g_O, g_IR, g_IO, g_RO, g_OO, g_OR, g_RRe, g_RRn])
      · rw [i7]; (try simp (disch := omega) only [g_eq, g_ne, g_R, g_O, g_IR, g_IO, g_RO, g_OO, g_OR, g_RRe, g_RRn])
      · exact (((((fC.rfl.put (by decide)).put (by decide)).put (by decide)).put (by decide)).put (by decide)).trans i8
      · exact (((((fM.rfl.put (by decide)).put (by decide)).put (by decide)).put (by decide)).put (by decide)).trans i9
      · intro f; rw [i10]; (try simp (disch := omega) only [g_eq, g_ne, g_R, g_O, g_IR, g_IO, g_RO, g_OO, g_OR, g_RRe, g_RRn])
theorem s_pays {e K N : Nat} : ∀ d j c m n1 n2, j + d = N → d < n1 → d < n2 → rAll e K N c m → (∀ i, i < N → (f_gI c 13 (f_gR c i) 4).toInt < 105 → f_gI c 13 (f_gR c i) 8 = 0) → ∃ c' m', f_it b_b_payUnpaid_2 n1 (nI j, c) = some ((), c') ∧ (∀ x1, f_it b_m_power_58 n2 (x1, nI j, m) = f_it b_m_power_106 2000 (x1, 0, m')) ∧ rAll e K N c' m' ∧ (∀ i, i < N → (f_gI c' 13 (f_gR c' i) 4).toInt < 105 → f_gI c' 13 (f_gR c' i) 8 = 0) ∧ fC c c' ∧ fM m m' ∧ f_gI m' 30 0 25 = f_gI m 30 0 25 := by
  intro d
  induction d with
  | zero =>
    intro j c m n1 n2 hj h1 h2 h hu
    obtain ⟨n1, rfl⟩ : ∃ q, n1 = q + 1 := ⟨n1 - 1, by omega⟩
    obtain ⟨n2, rfl⟩ : ∃ q, n2 = q + 1 := ⟨n2 - 1, by omega⟩
    obtain rfl : j = N := by omega
    refine ⟨c, m, ?_, ?_, h, hu, fC.rfl, fM.rfl, rfl⟩
    · show b_b_payUnpaid_2 _ _ = _
      simp only [b_b_payUnpaid_2, h.belt.cnt, Int32.le_refl, if_true]
    · intro x1
      show b_m_power_58 _ _ = _
      simp only [b_m_power_58, h.belt.siz, Int32.le_refl, if_true, b_m_power_104]
  | succ d ih =>
    intro j c m n1 n2 hj h1 h2 h hu
    obtain ⟨n1, rfl⟩ : ∃ q, n1 = q + 1 := ⟨n1 - 1, by omega⟩
    obtain ⟨n2, rfl⟩ : ∃ q, n2 = q + 1 := ⟨n2 - 1, by omega⟩
    have n13 := h.belt.n13
    have j60 : j < 60 := by omega
    have lt := h.belt.rlt j (by omega)
    have row := h.belt.row j (by omega)
    have ok := h.belt.ok j (by omega)
    have nle : ¬ nI N ≤ nI j := by rw [q_le (by omega) (by omega)]; omega
    rcases h.jou.on with ⟨q1, q2⟩ | ⟨q1, q2⟩
    · by_cases c105 : (f_gI c 13 (f_gR c j) 4).toInt < 105
      · have l : f_gI c 13 (f_gR c j) 4 < 105 := by rw [Int32.lt_iff_toInt_lt]; exact c105
        obtain ⟨c', m', i1, i2, i3⟩ := ih (j + 1) c m n1 n2 (by omega) (by omega) (by omega) h hu
        refine ⟨c', m', ?_, ?_, i3⟩
        · show b_b_payUnpaid_2 _ _ = _
          simp only [b_b_payUnpaid_2, b_b_payUnpaid_54, h.belt.cnt, nle, if_false, q1, one_ne, q_gd (q_ib (show j < 16 by omega) (by decide)), q_ix (show j < 2147483648 by omega), q_gd' lt, l, if_true, q_n1]
          exact i1
        · intro x1
          show b_m_power_58 _ _ = _
          simp only [b_m_power_58, b_m_power_98, h.belt.siz, nle, if_false, q2, if_true, m_g2 j60, q_bd, ← row.fro, l, q_n1]
          exact i2 x1
      · have l : ¬ f_gI c 13 (f_gR c j) 4 < 105 := by rw [Int32.lt_iff_toInt_lt]; exact c105
        by_cases p0 : f_gI c 13 (f_gR c j) 8 = 0
        · obtain ⟨c1, m1, a1, a2, a3, a4, a5, a6, a7, a8⟩ := s_pay h q1 (j := j) (by omega) (ok.f105 (by omega)) p0
          obtain ⟨c', m', i1, i2, i3, i4, i5, i6, i7⟩ := ih (j + 1) c1 m1 n1 n2 (by omega) (by omega) (by omega) a3 (by
            intro i hi
            rw [a5, a4 _ 4 (by omega)]
            intro x
            by_cases y : i = j
            · subst y; omega
            · rw [a4 _ _ (Or.inr fun z => y (h.belt.inj i j (by omega) (by omega) z))]; exact hu i hi x)
          refine ⟨c', m', ?_, ?_, i3, i4, a6.trans i5, a7.trans i6, i7.trans a8⟩
          · show b_b_payUnpaid_2 _ _ = _
            simp only [b_b_payUnpaid_2, b_b_payUnpaid_54, h.belt.cnt, nle, if_false, q1, one_ne, q_gd (q_ib (show j < 16 by omega) (by decide)), q_ix (show j < 2147483648 by omega), q_gd' lt, l, p0, if_true, a1, q_bd, q_n1]
            exact i1
          · intro x1
            show b_m_power_58 _ _ = _
            simp only [b_m_power_58, b_m_power_98, h.belt.siz, nle, if_false, q2, if_true, m_g2 j60, m_g5 j60, q_bd, ← row.fro, ← row.pai, l, p0, a2, q_n1]
            exact i2 x1
        · obtain ⟨c', m', i1, i2, i3⟩ := ih (j + 1) c m n1 n2 (by omega) (by omega) (by omega) h hu
          refine ⟨c', m', ?_, ?_, i3⟩
          · show b_b_payUnpaid_2 _ _ = _
            simp only [b_b_payUnpaid_2, b_b_payUnpaid_54, h.belt.cnt, nle, if_false, q1, one_ne, q_gd (q_ib (show j < 16 by omega) (by decide)), q_ix (show j < 2147483648 by omega), q_gd' lt, l, p0, q_n1]
            exact i1
          · intro x1
            show b_m_power_58 _ _ = _
            simp only [b_m_power_58, b_m_power_98, h.belt.siz, nle, if_false, q2, if_true, m_g2 j60, m_g5 j60, q_bd, ← row.fro, ← row.pai, l, p0, q_n1]
            exact i2 x1
    · refine ⟨c, m, ?_, ?_, h, hu, fC.rfl, fM.rfl, rfl⟩
      · show b_b_payUnpaid_2 _ _ = _
        simp only [b_b_payUnpaid_2, q1, if_true]
        split <;> rfl
      · intro x1
        show b_m_power_58 _ _ = _
        simp only [b_m_power_58, q2, one_ne, if_false, b_m_power_104]
        split <;> rfl
theorem s_bins {e K : Nat} : ∀ d j N c m n1 n2, j + d = N → d < n1 → d < n2 → rAll e K N c m → (∀ i, i < N → (f_gI c 13 (f_gR c i) 4).toInt < 105 → f_gI c 13 (f_gR c i) 8 = 0) → (∀ i, i < j → i < N → (f_gI c 13 (f_gR c i) 4).toInt - (f_gI c 13 (f_gR c i) 3).toInt < 110) → ∃ c' m' N', f_it b_b_binWaiting_10 n1 (nI j, nI d, c) = some ((), c') ∧ (∀ x1, f_it b_m_power_106 n2 (x1, nI j, m) = some (f_gI m' 30 0 19 - x1, m')) ∧ rRel e K N' c' m' ∧ fC c c' ∧ fM m m' ∧ f_gI m' 30 0 25 = f_gI m 30 0 25 := by
  intro d
  induction d with
  | zero =>
    intro j N c m n1 n2 hj h1 h2 h hu hr
    obtain ⟨n1, rfl⟩ : ∃ q, n1 = q + 1 := ⟨n1 - 1, by omega⟩
    obtain ⟨n2, rfl⟩ : ∃ q, n2 = q + 1 := ⟨n2 - 1, by omega⟩
    obtain rfl : j = N := by omega
    refine ⟨c, m, j, ?_, ?_, (rRel.mk h (fun _ i hi => hr i hi hi) hu), fC.rfl, fM.rfl, rfl⟩
    · show b_b_binWaiting_10 _ _ = _
      simp only [b_b_binWaiting_10, show nI 0 ≤ 0 from Int32.le_refl _, if_true]
    · intro x1
      show b_m_power_106 _ _ = _
      simp only [b_m_power_106, h.belt.siz, Int32.le_refl, if_true, b_m_power_160]
  | succ d ih =>
    intro j N c m n1 n2 hj h1 h2 h hu hr
    obtain ⟨n1, rfl⟩ : ∃ q, n1 = q + 1 := ⟨n1 - 1, by omega⟩
    obtain ⟨n2, rfl⟩ : ∃ q, n2 = q + 1 := ⟨n2 - 1, by omega⟩
    have n13 := h.belt.n13
    have jN : j < N := by omega
    have j60 : j < 60 := by omega
    have lt := h.belt.rlt j (by omega)
    have row := h.belt.row j (by omega)
    have ok := h.belt.ok j (by omega)
    have rr := ok.rear
    have a1' := ok.ln1
    have nle : ¬ nI N ≤ nI j := by rw [q_le (by omega) (by omega)]; omega
    have dle : ¬ nI (d + 1) ≤ 0 := by rw [show (0 : Int32) = nI 0 from rfl, q_le (by omega) (by omega)]; omega
    have dm : nI (d + 1) + (-1) = nI d := q_np' (by omega)
    have l110 : (110 : Int32).toInt = 110 := rfl
    rcases h.jou.on with ⟨q1, q2⟩ | ⟨q1, q2⟩
    · by_cases c110 : (f_gI c 13 (f_gR c j) 4).toInt - (f_gI c 13 (f_gR c j) 3).toInt < 110
      · have l : f_gI c 13 (f_gR c j) 4 - f_gI c 13 (f_gR c j) 3 < 110 := by rw [Int32.lt_iff_toInt_lt, rr]; exact c110
        obtain ⟨c', m', N', i1, i2, i3⟩ := ih (j + 1) N c m n1 n2 (by omega) (by omega) (by omega) h hu (by
          intro i hi hN
          by_cases y : i = j
          · subst y; exact c110
          · exact hr i (by omega) hN)
        refine ⟨c', m', N', ?_, ?_, i3⟩
        · show b_b_binWaiting_10 _ _ = _
          simp only [b_b_binWaiting_10, b_b_binWaiting_46, b_b_binWaiting_59, b_b_binWaiting_62, dle, if_false, q1, one_ne, q_gd (q_ib (show j < 16 by omega) (by decide)), q_ix (show j < 2147483648 by omega), q_gd' lt, F_co_rear, q_bd, l, if_true, q_n1, dm]
          exact i1
        · intro x1
          show b_m_power_106 _ _ = _
          simp only [b_m_power_106, b_m_power_143, b_m_power_144, b_m_power_155, h.belt.siz, nle, if_false, q2, if_true, m_rear j60, q_bd, ← row.fro, ← row.len, l, q_n1]
          exact i2 x1
      · have l : ¬ f_gI c 13 (f_gR c j) 4 - f_gI c 13 (f_gR c j) 3 < 110 := by rw [Int32.lt_iff_toInt_lt, rr]; exact c110
        rcases s_drop h q1 jN (ok.f105 (by omega)) with ⟨c1, m1, j1, j2, j3, j4, j5, j6, j7, j8, j9⟩ | ⟨c1, m1, j1, j2, j3, j4, j5, j6, j7, j8, j9, j10⟩
        · have off1 : f_gI m1 30 0 17 = 1 := by
            rcases j3.jou.on with ⟨x, _⟩ | ⟨_, y⟩
            · rw [j4] at x; cases x
            · exact y
          refine ⟨c1, m1, N, ?_, ?_, (rRel.mk j3 (fun q => (by rw [j4] at q; cases q)) (fun i hi => by rw [j6, j5 _ _ _ (by decide), j5 _ _ _ (by decide)]; exact hu i hi)), j7, j8, j9⟩
          · obtain ⟨n1, rfl⟩ : ∃ q, n1 = q + 1 := ⟨n1 - 1, by omega⟩
            show b_b_binWaiting_10 _ _ = _
            simp only [b_b_binWaiting_10, b_b_binWaiting_46, b_b_binWaiting_59, b_b_binWaiting_62, dle, if_false, q1, one_ne, q_gd (q_ib (show j < 16 by omega) (by decide)), q_ix (show j < 2147483648 by omega), q_gd' lt, F_co_rear, q_bd, l, j1, if_true, q_n1, dm]
            show b_b_binWaiting_10 _ _ = _
            simp only [b_b_binWaiting_10, j4, if_true]
            split <;> rfl
          · intro x1
            obtain ⟨n2, rfl⟩ : ∃ q, n2 = q + 1 := ⟨n2 - 1, by omega⟩
            show b_m_power_106 _ _ = _
            simp only [b_m_power_106, b_m_power_143, b_m_power_144, b_m_power_155, h.belt.siz, nle, if_false, q2, if_true, m_rear j60, q_bd, ← row.fro, ← row.len, l, j2, q_n1]
            show b_m_power_106 _ _ = _
            simp only [b_m_power_106, off1, one_ne, if_false, b_m_power_160]
            split <;> rfl
        · have sg : ∀ i, i < N - 1 → ∃ b, b < N ∧ f_gR c1 i = f_gR c b := by
            intro i hi
            by_cases x : i < j
            · exact ⟨i, by omega, j6 i x⟩
            · exact ⟨i + 1, by omega, j7 i (by omega) hi⟩
          obtain ⟨c', m', N', i1, i2, i3, i4, i5, i6⟩ := ih j (N - 1) c1 m1 n1 n2 (by omega) (by omega) (by omega) j3 (by
            intro i hi
            obtain ⟨b, bN, e⟩ := sg i hi
            rw [e, j5, j5]; exact hu b bN) (by
            intro i hi hN
            rw [j6 i hi, j5, j5]; exact hr i hi (by omega))
          refine ⟨c', m', N', ?_, ?_, i3, j8.trans i4, j9.trans i5, i6.trans j10⟩
          · show b_b_binWaiting_10 _ _ = _
            simp only [b_b_binWaiting_10, b_b_binWaiting_46, b_b_binWaiting_59, b_b_binWaiting_62, dle, if_false, q1, one_ne, q_gd (q_ib (show j < 16 by omega) (by decide)), q_ix (show j < 2147483648 by omega), q_gd' lt, F_co_rear, q_bd, l, j1, dm]
            exact i1
          · intro x1
            show b_m_power_106 _ _ = _
            simp only [b_m_power_106, b_m_power_143, b_m_power_144, b_m_power_155, h.belt.siz, nle, if_false, q2, if_true, m_rear j60, q_bd, ← row.fro, ← row.len, l, j2, one_ne, Int32.add_zero]
            exact i2 x1
    · refine ⟨c, m, N, ?_, ?_, (rRel.mk h (fun q => (by rw [q1] at q; cases q)) hu), fC.rfl, fM.rfl, rfl⟩
      · show b_b_binWaiting_10 _ _ = _
        simp only [b_b_binWaiting_10, q1, if_true]
        split <;> rfl
      · intro x1
        show b_m_power_106 _ _ = _
        simp only [b_m_power_106, q2, one_ne, if_false, b_m_power_160]
        split <;> rfl
theorem o_power : qOk aV F_b_power F_m_power := by
  apply qOk.mk
  intro e K N c m he hK h
  have n13 := h.all.belt.n13
  rcases h.all.jou.on with ⟨q1, q2⟩ | ⟨q1, q2⟩
  · refine ⟨-1, c, -1, f_pI m 30 0 25 0, N, e, K, ?_, ?_, rfl, by omega, by omega, h.thr, fC.rfl, fM.rfl.put (by decide)⟩
    · unfold F_b_power; rw [q1, if_neg one_ne]
    · unfold F_m_power; rw [if_pos (by (try simp (disch := omega) only [g_eq, g_ne, g_R, g_O, g_IR, g_IO, g_RO, g_OO, g_OR, g_RRe, g_RRn]); exact q2)]
  · have ht := h.thr (v := 0)
    have hA : rAll e K N (f_pI c 23 0 2 1) (f_pI (f_pI m 30 0 25 0) 30 0 17 0) := by
      obtain ⟨e5, K9, cat, belt, bins, ⟨V, vou⟩, jou, ⟨t, a, lat⟩, tot, mon⟩ := ht.all
      refine rAll.mk e5 K9 ?_ ?_ ?_ ?_ ?_ ?_ ?_ ?_
      any_goals (first | exact rCat.to ‹_› (by (intros; first | rfl | ((try simp (disch := omega) only [g_eq, g_ne, g_R, g_O, g_IR, g_IO, g_RO, g_OO, g_OR, g_RRe, g_RRn]); done) | fail)) (by (intros; first | rfl | ((try simp (disch := omega) only [g_eq, g_ne, g_R, g_O, g_IR, g_IO, g_RO, g_OO, g_OR, g_RRe, g_RRn]); done) | fail)) | exact rBelt.to ‹_› (by (intros; first | rfl | ((try simp (disch := omega) only [g_eq, g_ne, g_R, g_O, g_IR, g_IO, g_RO, g_OO, g_OR, g_RRe, g_RRn]); done) | fail)) (by (intros; first | rfl | ((try simp (disch := omega) only [g_eq, g_ne, g_R, g_O, g_IR, g_IO, g_RO, g_OO, g_OR, g_RRe, g_RRn]); done) | fail)) (by (intros; first | rfl | ((try simp (disch := omega) only [g_eq, g_ne, g_R, g_O, g_IR, g_IO, g_RO, g_OO, g_OR, g_RRe, g_RRn]); done) | fail)) (by (intros; first | rfl | ((try simp (disch := omega) only [g_eq, g_ne, g_R, g_O, g_IR, g_IO, g_RO, g_OO, g_OR, g_RRe, g_RRn]); done) | fail)) (by (intros; first | rfl | ((try simp (disch := omega) only [g_eq, g_ne, g_R, g_O, g_IR, g_IO, g_RO, g_OO, g_OR, g_RRe, g_RRn]); done) | fail)) | exact rBins.to ‹_› (by (intros; first | rfl | ((try simp (disch := omega) only [g_eq, g_ne, g_R, g_O, g_IR, g_IO, g_RO, g_OO, g_OR, g_RRe, g_RRn]); done) | fail)) (by (intros; first | rfl | ((try simp (disch := omega) only [g_eq, g_ne, g_R, g_O, g_IR, g_IO, g_RO, g_OO, g_OR, g_RRe, g_RRn]); done) | fail)) | exact ⟨_, rVou.to ‹_› (by (intros; first | rfl | ((try simp (disch := omega) only [g_eq, g_ne, g_R, g_O, g_IR, g_IO, g_RO, g_OO, g_OR, g_RRe, g_RRn]); done) | fail)) (by (intros; first | rfl | ((try simp (disch := omega) only [g_eq, g_ne, g_R, g_O, g_IR, g_IO, g_RO, g_OO, g_OR, g_RRe, g_RRn]); done) | fail)) (by (intros; first | rfl | ((try simp (disch := omega) only [g_eq, g_ne, g_R, g_O, g_IR, g_IO, g_RO, g_OO, g_OR, g_RRe, g_RRn]); done) | fail)) (by (intros; first | rfl | ((try simp (disch := omega) only [g_eq, g_ne, g_R, g_O, g_IR, g_IO, g_RO, g_OO, g_OR, g_RRe, g_RRn]); done) | fail)) (by (intros; first | rfl | ((try simp (disch := omega) only [g_eq, g_ne, g_R, g_O, g_IR, g_IO, g_RO, g_OO, g_OR, g_RRe, g_RRn]); done) | fail))⟩ | exact rJou.to ‹_› (by (intros; first | rfl | ((try simp (disch := omega) only [g_eq, g_ne, g_R, g_O, g_IR, g_IO, g_RO, g_OO, g_OR, g_RRe, g_RRn]); done) | fail)) (by (intros; first | rfl | ((try simp (disch := omega) only [g_eq, g_ne, g_R, g_O, g_IR, g_IO, g_RO, g_OO, g_OR, g_RRe, g_RRn]); done) | fail)) (by (intros; first | rfl | ((try simp (disch := omega) only [g_eq, g_ne, g_R, g_O, g_IR, g_IO, g_RO, g_OO, g_OR, g_RRe, g_RRn]); done) | fail)) (by (intros; first | rfl | ((try simp (disch := omega) only [g_eq, g_ne, g_R, g_O, g_IR, g_IO, g_RO, g_OO, g_OR, g_RRe, g_RRn]); done) | fail)) | exact ⟨_, _, rLat.to ‹_› (Nat.le_refl _) (by (intros; first | rfl | ((try simp (disch := omega) only [g_eq, g_ne, g_R, g_O, g_IR, g_IO, g_RO, g_OO, g_OR, g_RRe, g_RRn]); done) | fail)) (by (intros; first | rfl | ((try simp (disch := omega) only [g_eq, g_ne, g_R, g_O, g_IR, g_IO, g_RO, g_OO, g_OR, g_RRe, g_RRn]); done) | fail)) (by (intros; first | rfl | ((try simp (disch := omega) only [g_eq, g_ne, g_R, g_O, g_IR, g_IO, g_RO, g_OO, g_OR, g_RRe, g_RRn]); done) | fail))⟩ | exact rTot.to ‹_› (by (intros; first | rfl | ((try simp (disch := omega) only [g_eq, g_ne, g_R, g_O, g_IR, g_IO, g_RO, g_OO, g_OR, g_RRe, g_RRn]); done) | fail)) (by (intros; first | rfl | ((try simp (disch := omega) only [g_eq, g_ne, g_R, g_O, g_IR, g_IO, g_RO, g_OO, g_OR, g_RRe, g_RRn]); done) | fail)) (by (intros; first | rfl | ((try simp (disch := omega) only [g_eq, g_ne, g_R, g_O, g_IR, g_IO, g_RO, g_OO, g_OR, g_RRe, g_RRn]); done) | fail)) (by (intros; first | rfl | ((try simp (disch := omega) only [g_eq, g_ne, g_R, g_O, g_IR, g_IO, g_RO, g_OO, g_OR, g_RRe, g_RRn]); done) | fail)) (by (intros; first | rfl | ((try simp (disch := omega) only [g_eq, g_ne, g_R, g_O, g_IR, g_IO, g_RO, g_OO, g_OR, g_RRe, g_RRn]); done) | fail)) (by (intros; first | rfl | ((try simp (disch := omega) only [g_eq, g_ne, g_R, g_O, g_IR, g_IO, g_RO, g_OO, g_OR, g_RRe, g_RRn]); done) | fail)) (by (intros; first | rfl | ((try simp (disch := omega) only [g_eq, g_ne, g_R, g_O, g_IR, g_IO, g_RO, g_OO, g_OR, g_RRe, g_RRn]); done) | fail)) (by (intros; first | rfl | ((try simp (disch := omega) only [g_eq, g_ne, g_R, g_O, g_IR, g_IO, g_RO, g_OO, g_OR, g_RRe, g_RRn]); done) | fail)) | exact rMon.to ‹_› (Nat.le_refl _) (by (intros; first | rfl | ((try simp (disch := omega) only [g_eq, g_ne, g_R, g_O, g_IR, g_IO, g_RO, g_OO, g_OR, g_RRe, g_RRn]); done) | fail)) (by (intros; first | rfl | ((try simp (disch := omega) only [g_eq, g_ne, g_R, g_O, g_IR, g_IO, g_RO, g_OO, g_OR, g_RRe, g_RRn]); done) | fail)) (by (intros; first | rfl | ((try simp (disch := omega) only [g_eq, g_ne, g_R, g_O, g_IR, g_IO, g_RO, g_OO, g_OR, g_RRe, g_RRn]); done) | fail)) | fail)
      refine rJou.mk ?_ ?_ ?_
      · (try simp (disch := omega) only [g_eq, g_ne, g_R, g_O, g_IR, g_IO, g_RO, g_OO, g_OR, g_RRe, g_RRn]); have := jou.rcd; revert this; (try simp (disch := omega) only [g_eq, g_ne, g_R, g_O, g_IR, g_IO, g_RO, g_OO, g_OR, g_RRe, g_RRn]); exact id
      · (try simp (disch := omega) only [g_eq, g_ne, g_R, g_O, g_IR, g_IO, g_RO, g_OO, g_OR, g_RRe, g_RRn]); have := jou.cut; revert this; (try simp (disch := omega) only [g_eq, g_ne, g_R, g_O, g_IR, g_IO, g_RO, g_OO, g_OR, g_RRe, g_RRn]); exact id
      · left; constructor <;> (try simp (disch := omega) only [g_eq, g_ne, g_R, g_O, g_IR, g_IO, g_RO, g_OO, g_OR, g_RRe, g_RRn])
    obtain ⟨c1, m1, a1, a2, a3, ⟨a4, a5, a6, a7⟩, a8, a9, a10⟩ := s_forg (e := e) (K := K) (N := N) N 0 _ _ 2000 2000 (by omega) (by omega) (by omega) hA
    obtain ⟨c2, m2, b1, b2, b3, b4, b5, b6, b7⟩ := s_pays (e := e) (K := K) (N := N) N 0 c1 m1 2000 2000 (by omega) (by omega) (by omega) a3 (by
      intro i hi
      rw [a5, a4 _ _ (by omega), a4 _ _ (by omega)]
      (try simp (disch := omega) only [g_eq, g_ne, g_R, g_O, g_IR, g_IO, g_RO, g_OO, g_OR, g_RRe, g_RRn])
      exact h.unp i hi)
    obtain ⟨c3, m3, N', d1, d2, d3, d4, d5, d6⟩ := s_bins (e := e) (K := K) N 0 N c2 m2 2000 2000 (by omega) (by omega) (by omega) b3 b4 (by intro i hi; omega)
    refine ⟨f_gI c3 23 0 0 - f_gI c 23 0 0, c3, f_gI m3 30 0 19 - f_gI m 30 0 19, m3, N', e, K, ?_, ?_, ?_, by omega, by omega, d3, ?_, ?_⟩
    · unfold F_b_power
      rw [if_pos q1]
      unfold F_be_forgetBefore F_b_payUnpaid F_b_binWaiting
      rw [show f_it b_be_forgetBefore_2 2000 (105, 0, f_pI c 23 0 2 1) = _ from a1, q_bd, show f_it b_b_payUnpaid_2 2000 (0, c1) = _ from b1, q_bd, b3.belt.cnt, show f_it b_b_binWaiting_10 2000 (0, nI N, c2) = _ from d1, q_bd]
    · unfold F_m_power
      rw [if_neg (by (try simp (disch := omega) only [g_eq, g_ne, g_R, g_O, g_IR, g_IO, g_RO, g_OO, g_OR, g_RRe, g_RRn]); rw [q2]; exact one_ne), show f_it b_m_power_26 2000 (f_gI (f_pI (f_pI m 30 0 25 0) 30 0 17 0) 30 0 19, 0, f_pI (f_pI m 30 0 25 0) 30 0 17 0) = _ from a2 _, show f_it b_m_power_58 2000 (f_gI (f_pI (f_pI m 30 0 25 0) 30 0 17 0) 30 0 19, 0, m1) = _ from b2 _, show f_it b_m_power_106 2000 (f_gI (f_pI (f_pI m 30 0 25 0) 30 0 17 0) 30 0 19, 0, m2) = _ from d2 _]
      (try simp (disch := omega) only [g_eq, g_ne, g_R, g_O, g_IR, g_IO, g_RO, g_OO, g_OR, g_RRe, g_RRn])
    · show _ = _
      rw [d3.all.jou.rcd, h.all.jou.rcd]
    · exact (((fC.rfl.put (by decide)).trans a8).trans b5).trans d4
    · exact ((((fM.rfl.put (by decide)).put (by decide)).trans a9).trans b6).trans d5
