set_option linter.unusedVariables false
set_option linter.unusedSimpArgs false
theorem q_cpL {z : fST} {i a b k : Nat} : f_gI (f_cpL z i) a b k = if a = 25 ∧ b = 0 ∧ k < 8 then f_gI z 15 i k else f_gI z a b k := rfl
theorem q_cpn {z : fST} {i a b k : Nat} (h : a ≠ 25) : f_gI (f_cpL z i) a b k = f_gI z a b k := by rw [q_cpL, if_neg (by omega)]
/-- what a judgement leaves as it was -/
def jS (c c' m m' : fST) : Prop := (∀ i f, f ≠ 6 → f ≠ 7 → f_gI c' 13 i f = f_gI c 13 i f) ∧ (∀ i, f_gR c' i = f_gR c i) ∧ fC c c' ∧ fM m m' ∧ f_gI m' 30 0 25 = f_gI m 30 0 25
theorem c_judge {p : Nat} {c : fST} {kd v : Int32} (h1 : F_ca_kindOf p c = some (kd, c)) (h2 : q_cv p kd c = some (v, c)) : F_b_judge p c = b_b_judge_29 p kd v c := by
  unfold F_b_judge
  rw [h1, q_bd]
  unfold q_cv at h2
  cases hr : F_b_judgementByReadings p kd c with
  | none => rw [hr] at h2; cases h2
  | some x =>
    obtain ⟨v2, z2⟩ := x
    rw [hr, q_bd] at h2
    rw [q_bd]
    by_cases q : v2 = 10
    · rw [if_pos q] at h2
      rw [if_pos q, h2, q_bd]
    · rw [if_neg q] at h2
      rw [if_neg q]
      cases h2
      rfl
theorem s_refuse {e K N : Nat} {c m : fST} (h : rAll e K N c m) {j q : Nat} (jN : j < N) (q1 : 1 ≤ q) (q9 : q ≤ 9) (fr : (f_gI c 13 (f_gR c j) 4).toInt < 105) (kn : f_gI c 13 (f_gR c j) 7 = -1) : rAll e K N (f_pI (f_pI c 13 (f_gR c j) 6 (nI q)) 26 0 q (f_gI c 26 0 q + 1)) (f_pI (f_pI m 34 0 (20 * j + 3) (nI q)) 41 0 q (f_gI m 41 0 q + 1)) := by
  obtain ⟨e5, K9, cat, belt, bins, ⟨V, vou⟩, jou, ⟨t, a, lat⟩, tot, mon⟩ := h
  have row := belt.row j jN
  have ok := belt.ok j jN
  have nc := ok.nc2
  have nw := ok.nw2
  refine rAll.mk e5 K9 ?_ ?_ ?_ ?_ ?_ ?_ ?_ ?_
  any_goals (first | exact rCat.to ‹_› (by (intros; first | rfl | ((try simp (disch := omega) only [g_eq, g_ne, g_R, g_O, g_IR, g_IO, g_RO, g_OO, g_OR, g_RRe, g_RRn]); done) | fail)) (by (intros; first | rfl | ((try simp (disch := omega) only [g_eq, g_ne, g_R, g_O, g_IR, g_IO, g_RO, g_OO, g_OR, g_RRe, g_RRn]); done) | fail)) | exact rBelt.to ‹_› (by (intros; first | rfl | ((try simp (disch := omega) only [g_eq, g_ne, g_R, g_O, g_IR, g_IO, g_RO, g_OO, g_OR, g_RRe, g_RRn]); done) | fail)) (by (intros; first | rfl | ((try simp (disch := omega) only [g_eq, g_ne, g_R, g_O, g_IR, g_IO, g_RO, g_OO, g_OR, g_RRe, g_RRn]); done) | fail)) (by (intros; first | rfl | ((try simp (disch := omega) only [g_eq, g_ne, g_R, g_O, g_IR, g_IO, g_RO, g_OO, g_OR, g_RRe, g_RRn]); done) | fail)) (by (intros; first | rfl | ((try simp (disch := omega) only [g_eq, g_ne, g_R, g_O, g_IR, g_IO, g_RO, g_OO, g_OR, g_RRe, g_RRn]); done) | fail)) (by (intros; first | rfl | ((try simp (disch := omega) only [g_eq, g_ne, g_R, g_O, g_IR, g_IO, g_RO, g_OO, g_OR, g_RRe, g_RRn]); done) | fail)) | exact rBins.to ‹_› (by (intros; first | rfl | ((try simp (disch := omega) only [g_eq, g_ne, g_R, g_O, g_IR, g_IO, g_RO, g_OO, g_OR, g_RRe, g_RRn]); done) | fail)) (by (intros; first | rfl | ((try simp (disch := omega) only [g_eq, g_ne, g_R, g_O, g_IR, g_IO, g_RO, g_OO, g_OR, g_RRe, g_RRn]); done) | fail)) | exact ⟨_, rVou.to ‹_› (by (intros; first | rfl | ((try simp (disch := omega) only [g_eq, g_ne, g_R, g_O, g_IR, g_IO, g_RO, g_OO, g_OR, g_RRe, g_RRn]); done) | fail)) (by (intros; first | rfl | ((try simp (disch := omega) only [g_eq, g_ne, g_R, g_O, g_IR, g_IO, g_RO, g_OO, g_OR, g_RRe, g_RRn]); done) | fail)) (by (intros; first | rfl | ((try simp (disch := omega) only [g_eq, g_ne, g_R, g_O, g_IR, g_IO, g_RO, g_OO, g_OR, g_RRe, g_RRn]); done) | fail)) (by (intros; first | rfl | ((try simp (disch := omega) only [g_eq, g_ne, g_R, g_O, g_IR, g_IO, g_RO, g_OO, g_OR, g_RRe, g_RRn]); done) | fail)) (by (intros; first | rfl | ((try simp (disch := omega) only [g_eq, g_ne, g_R, g_O, g_IR, g_IO, g_RO, g_OO, g_OR, g_RRe, g_RRn]); done) | fail))⟩ | exact rJou.to ‹_› (by (intros; first | rfl | ((try simp (disch := omega) only [g_eq, g_ne, g_R, g_O, g_IR, g_IO, g_RO, g_OO, g_OR, g_RRe, g_RRn]); done) | fail)) (by (intros; first | rfl | ((try simp (disch := omega) only [g_eq, g_ne, g_R, g_O, g_IR, g_IO, g_RO, g_OO, g_OR, g_RRe, g_RRn]); done) | fail)) (by (intros; first | rfl | ((try simp (disch := omega) only [g_eq, g_ne, g_R, g_O, g_IR, g_IO, g_RO, g_OO, g_OR, g_RRe, g_RRn]); done) | fail)) (by (intros; first | rfl | ((try simp (disch := omega) only [g_eq, g_ne, g_R, g_O, g_IR, g_IO, g_RO, g_OO, g_OR, g_RRe, g_RRn]); done) | fail)) | exact ⟨_, _, rLat.to ‹_› (Nat.le_refl _) (by (intros; first | rfl | ((try simp (disch := omega) only [g_eq, g_ne, g_R, g_O, g_IR, g_IO, g_RO, g_OO, g_OR, g_RRe, g_RRn]); done) | fail)) (by (intros; first | rfl | ((try simp (disch := omega) only [g_eq, g_ne, g_R, g_O, g_IR, g_IO, g_RO, g_OO, g_OR, g_RRe, g_RRn]); done) | fail)) (by (intros; first | rfl | ((try simp (disch := omega) only [g_eq, g_ne, g_R, g_O, g_IR, g_IO, g_RO, g_OO, g_OR, g_RRe, g_RRn]); done) | fail))⟩ | exact rTot.to ‹_› (by (intros; first | rfl | ((try simp (disch := omega) only [g_eq, g_ne, g_R, g_O, g_IR, g_IO, g_RO, g_OO, g_OR, g_RRe, g_RRn]); done) | fail)) (by (intros; first | rfl | ((try simp (disch := omega) only [g_eq, g_ne, g_R, g_O, g_IR, g_IO, g_RO, g_OO, g_OR, g_RRe, g_RRn]); done) | fail)) (by (intros; first | rfl | ((try simp (disch := omega) only [g_eq, g_ne, g_R, g_O, g_IR, g_IO, g_RO, g_OO, g_OR, g_RRe, g_RRn]); done) | fail)) (by (intros; first | rfl | ((try simp (disch := omega) only [g_eq, g_ne, g_R, g_O, g_IR, g_IO, g_RO, g_OO, g_OR, g_RRe, g_RRn]); done) | fail)) (by (intros; first | rfl | ((try simp (disch := omega) only [g_eq, g_ne, g_R, g_O, g_IR, g_IO, g_RO, g_OO, g_OR, g_RRe, g_RRn]); done) | fail)) (by (intros; first | rfl | ((try simp (disch := omega) only [g_eq, g_ne, g_R, g_O, g_IR, g_IO, g_RO, g_OO, g_OR, g_RRe, g_RRn]); done) | fail)) (by (intros; first | rfl | ((try simp (disch := omega) only [g_eq, g_ne, g_R, g_O, g_IR, g_IO, g_RO, g_OO, g_OR, g_RRe, g_RRn]); done) | fail)) (by (intros; first | rfl | ((try simp (disch := omega) only [g_eq, g_ne, g_R, g_O, g_IR, g_IO, g_RO, g_OO, g_OR, g_RRe, g_RRn]); done) | fail)) | exact rMon.to ‹_› (Nat.le_refl _) (by (intros; first | rfl | ((try simp (disch := omega) only [g_eq, g_ne, g_R, g_O, g_IR, g_IO, g_RO, g_OO, g_OR, g_RRe, g_RRn]); done) | fail)) (by (intros; first | rfl | ((try simp (disch := omega) only [g_eq, g_ne, g_R, g_O, g_IR, g_IO, g_RO, g_OO, g_OR, g_RRe, g_RRn]); done) | fail)) (by (intros; first | rfl | ((try simp (disch := omega) only [g_eq, g_ne, g_R, g_O, g_IR, g_IO, g_RO, g_OO, g_OR, g_RRe, g_RRn]); done) | fail)) | fail)
  · refine belt.upd jN (by (intros; first | rfl | ((try simp (disch := omega) only [g_eq, g_ne, g_R, g_O, g_IR, g_IO, g_RO, g_OO, g_OR, g_RRe, g_RRn]); done) | fail)) (by (intros; first | rfl | ((try simp (disch := omega) only [g_eq, g_ne, g_R, g_O, g_IR, g_IO, g_RO, g_OO, g_OR, g_RRe, g_RRn]); done) | fail)) (by (intros; first | rfl | ((try simp (disch := omega) only [g_eq, g_ne, g_R, g_O, g_IR, g_IO, g_RO, g_OO, g_OR, g_RRe, g_RRn]); done) | fail)) (by (intros; first | rfl | ((try simp (disch := omega) only [g_eq, g_ne, g_R, g_O, g_IR, g_IO, g_RO, g_OO, g_OR, g_RRe, g_RRn]); done) | fail)) (by (intros; first | rfl | ((try simp (disch := omega) only [g_eq, g_ne, g_R, g_O, g_IR, g_IO, g_RO, g_OO, g_OR, g_RRe, g_RRn]); done) | fail)) (by (intros; first | rfl | ((try simp (disch := omega) only [g_eq, g_ne, g_R, g_O, g_IR, g_IO, g_RO, g_OO, g_OR, g_RRe, g_RRn]); done) | fail)) ?_ ?_ (by (intros; first | rfl | ((try simp (disch := omega) only [g_eq, g_ne, g_R, g_O, g_IR, g_IO, g_RO, g_OO, g_OR, g_RRe, g_RRn]); done) | fail)) (by (intros; first | rfl | ((try simp (disch := omega) only [g_eq, g_ne, g_R, g_O, g_IR, g_IO, g_RO, g_OO, g_OR, g_RRe, g_RRn]); done) | fail))
    · refine rRow.mk ?_ ?_ ?_ ?_ ?_ ?_ ?_ ?_ ?_ ?_ ?_
      · (try simp (disch := omega) only [g_eq, g_ne, g_R, g_O, g_IR, g_IO, g_RO, g_OO, g_OR, g_RRe, g_RRn]); exact row.num
      · (try simp (disch := omega) only [g_eq, g_ne, g_R, g_O, g_IR, g_IO, g_RO, g_OO, g_OR, g_RRe, g_RRn]); exact row.len
      · (try simp (disch := omega) only [g_eq, g_ne, g_R, g_O, g_IR, g_IO, g_RO, g_OO, g_OR, g_RRe, g_RRn]); exact row.fro
      · (try simp (disch := omega) only [g_eq, g_ne, g_R, g_O, g_IR, g_IO, g_RO, g_OO, g_OR, g_RRe, g_RRn])
      · (try simp (disch := omega) only [g_eq, g_ne, g_R, g_O, g_IR, g_IO, g_RO, g_OO, g_OR, g_RRe, g_RRn]); exact row.kin
      · (try simp (disch := omega) only [g_eq, g_ne, g_R, g_O, g_IR, g_IO, g_RO, g_OO, g_OR, g_RRe, g_RRn]); exact row.pai
      · (try simp (disch := omega) only [g_eq, g_ne, g_R, g_O, g_IR, g_IO, g_RO, g_OO, g_OR, g_RRe, g_RRn]); exact row.wei
      · (try simp (disch := omega) only [g_eq, g_ne, g_R, g_O, g_IR, g_IO, g_RO, g_OO, g_OR, g_RRe, g_RRn]); exact row.ncd
      · (try simp (disch := omega) only [g_eq, g_ne, g_R, g_O, g_IR, g_IO, g_RO, g_OO, g_OR, g_RRe, g_RRn]); exact row.nwd
      · intro i hi
        have hi : (i : Int) < (f_gI c 14 (f_gR c j) 1).toInt := by revert hi; (try simp (disch := omega) only [g_eq, g_ne, g_R, g_O, g_IR, g_IO, g_RO, g_OO, g_OR, g_RRe, g_RRn]); exact id
        (try simp (disch := omega) only [g_eq, g_ne, g_R, g_O, g_IR, g_IO, g_RO, g_OO, g_OR, g_RRe, g_RRn]); exact row.cds i hi
      · intro i hi
        have hi : (i : Int) < (f_gI c 14 (f_gR c j + 16) 1).toInt := by revert hi; (try simp (disch := omega) only [g_eq, g_ne, g_R, g_O, g_IR, g_IO, g_RO, g_OO, g_OR, g_RRe, g_RRn]); exact id
        (try simp (disch := omega) only [g_eq, g_ne, g_R, g_O, g_IR, g_IO, g_RO, g_OO, g_OR, g_RRe, g_RRn]); exact row.wds i hi
    · refine rOk.mk ?_ ?_ ?_ ?_ ?_ ?_ ?_ ?_ ?_ ?_ ?_ ?_
      · (try simp (disch := omega) only [g_eq, g_ne, g_R, g_O, g_IR, g_IO, g_RO, g_OO, g_OR, g_RRe, g_RRn]); exact ok.ln1
      · (try simp (disch := omega) only [g_eq, g_ne, g_R, g_O, g_IR, g_IO, g_RO, g_OO, g_OR, g_RRe, g_RRn]); exact ok.ln2
      · (try simp (disch := omega) only [g_eq, g_ne, g_R, g_O, g_IR, g_IO, g_RO, g_OO, g_OR, g_RRe, g_RRn]); exact ok.nc1
      · (try simp (disch := omega) only [g_eq, g_ne, g_R, g_O, g_IR, g_IO, g_RO, g_OO, g_OR, g_RRe, g_RRn]); exact ok.nc2
      · (try simp (disch := omega) only [g_eq, g_ne, g_R, g_O, g_IR, g_IO, g_RO, g_OO, g_OR, g_RRe, g_RRn]); exact ok.nw1
      · (try simp (disch := omega) only [g_eq, g_ne, g_R, g_O, g_IR, g_IO, g_RO, g_OO, g_OR, g_RRe, g_RRn]); exact ok.nw2
      · (try simp (disch := omega) only [g_eq, g_ne, g_R, g_O, g_IR, g_IO, g_RO, g_OO, g_OR, g_RRe, g_RRn]); left; exact ⟨kn, by rw [show (10 : Int32) = nI 10 from rfl, Ne, q_eq (by omega) (by omega)]; omega⟩
      · (try simp (disch := omega) only [g_eq, g_ne, g_R, g_O, g_IR, g_IO, g_RO, g_OO, g_OR, g_RRe, g_RRn]); exact ok.p01
      · (try simp (disch := omega) only [g_eq, g_ne, g_R, g_O, g_IR, g_IO, g_RO, g_OO, g_OR, g_RRe, g_RRn]); exact ok.fr0
      · (try simp (disch := omega) only [g_eq, g_ne, g_R, g_O, g_IR, g_IO, g_RO, g_OO, g_OR, g_RRe, g_RRn]); exact ok.fr1
      · (try simp (disch := omega) only [g_eq, g_ne, g_R, g_O, g_IR, g_IO, g_RO, g_OO, g_OR, g_RRe, g_RRn]); intro x; omega
      · (try simp (disch := omega) only [g_eq, g_ne, g_R, g_O, g_IR, g_IO, g_RO, g_OO, g_OR, g_RRe, g_RRn]); exact ok.k60
  · refine rTot.mk ?_ ?_ ?_ ?_ ?_ ?_
    · (try simp (disch := omega) only [g_eq, g_ne, g_R, g_O, g_IR, g_IO, g_RO, g_OO, g_OR, g_RRe, g_RRn]); exact tot.cre
    · (try simp (disch := omega) only [g_eq, g_ne, g_R, g_O, g_IR, g_IO, g_RO, g_OO, g_OR, g_RRe, g_RRn]); exact tot.pad
    · (try simp (disch := omega) only [g_eq, g_ne, g_R, g_O, g_IR, g_IO, g_RO, g_OO, g_OR, g_RRe, g_RRn]); exact tot.sum
    · (try simp (disch := omega) only [g_eq, g_ne, g_R, g_O, g_IR, g_IO, g_RO, g_OO, g_OR, g_RRe, g_RRn]); exact tot.giv
    · (try simp (disch := omega) only [g_eq, g_ne, g_R, g_O, g_IR, g_IO, g_RO, g_OO, g_OR, g_RRe, g_RRn]); exact tot.sus
    · intro i hi
      by_cases x : i = q
      · subst x; (try simp (disch := omega) only [g_eq, g_ne, g_R, g_O, g_IR, g_IO, g_RO, g_OO, g_OR, g_RRe, g_RRn]); rw [tot.ref i hi]
      · (try simp (disch := omega) only [g_eq, g_ne, g_R, g_O, g_IR, g_IO, g_RO, g_OO, g_OR, g_RRe, g_RRn]); exact tot.ref i hi
  · exact mon.upd (Nat.le_refl _) (by (intros; first | rfl | ((try simp (disch := omega) only [g_eq, g_ne, g_R, g_O, g_IR, g_IO, g_RO, g_OO, g_OR, g_RRe, g_RRn]); done) | fail)) (by (intros; first | rfl | ((try simp (disch := omega) only [g_eq, g_ne, g_R, g_O, g_IR, g_IO, g_RO, g_OO, g_OR, g_RRe, g_RRn]); done) | fail)) (by (intros; first | rfl | ((try simp (disch := omega) only [g_eq, g_ne, g_R, g_O, g_IR, g_IO, g_RO, g_OO, g_OR, g_RRe, g_RRn]); done) | fail)) (by (intros; first | rfl | ((try simp (disch := omega) only [g_eq, g_ne, g_R, g_O, g_IR, g_IO, g_RO, g_OO, g_OR, g_RRe, g_RRn]); done) | fail))
/-- the reference's ring of the latest -/
theorem m_ring {m : fST} {j a : Nat} (hj : j < 60) (ha : a < 2147483648) (hacc : f_gI m 30 0 15 = nI a) : ∃ s, f_it b_m_judge_63 2000 (nI j, 0, m) = some ((), f_pI s 30 0 15 (nI (a + 1))) ∧ (∀ k, k < 8 → f_gI s 40 0 (8 * (a % 3) + k) = f_gI m 34 0 (20 * j + 12 + k)) ∧ (∀ k i x, (k ≠ 40 ∨ x < 8 * (a % 3) ∨ 8 * (a % 3) + 8 ≤ x) → f_gI s k i x = f_gI m k i x) ∧ fM m s := by
  have a3 : a % 3 < 3 := Nat.mod_lt _ (by decide)
  refine Exists.elim (q_loop0 (body := b_m_judge_63) (fun i s => (nI j, nI i, s)) 8 (fun n s => (∀ k, k < n → f_gI s 40 0 (8 * (a % 3) + k) = f_gI m 34 0 (20 * j + 12 + k)) ∧ (∀ k i x, (k ≠ 40 ∨ x < 8 * (a % 3) ∨ 8 * (a % 3) + 8 ≤ x) → f_gI s k i x = f_gI m k i x) ∧ fM m s) (fun s => some ((), f_pI s 30 0 15 (nI (a + 1)))) (by omega) ?_ ?_ m ⟨by omega, by (intros; first | rfl | ((try simp (disch := omega) only [g_eq, g_ne, g_R, g_O, g_IR, g_IO, g_RO, g_OO, g_OR, g_RRe, g_RRn]); done) | fail), fM.rfl⟩) ?_
  · rintro k s ⟨h1, h2, h3⟩
    have e : f_gI s 30 0 15 = nI a := (h2 _ _ _ (by omega)).trans hacc
    simp only [b_m_judge_63, show (8 : Int32) ≤ nI 8 from Int32.le_refl _, if_true, e, q_n1]
  · rintro i s hi ⟨h1, h2, h3⟩
    have e : f_gI s 30 0 15 = nI a := (h2 _ _ _ (by omega)).trans hacc
    have e1 : (12 : Int32) + nI i = nI (12 + i) := q_na 12 i
    have e2 : (8 : Int32) * (nI a - nI a / 3 * 3) + nI i = nI (8 * (a % 3) + i) := by
      rw [show (3 : Int32) = nI 3 from rfl, q_nr ha (by omega), show (8 : Int32) = nI 8 from rfl, q_nm, q_na]
    refine ⟨f_pI s 40 0 (8 * (a % 3) + i) (f_gI s 34 0 (20 * j + (12 + i))), ?_, ?_, ?_, h3.put (by decide)⟩
    · intro k
      simp only [b_m_judge_63, e, e1, m_get (show 20 * j + (12 + i) < 1200 by omega), q_bd, e2, q_gd (q_ib (show 8 * (a % 3) + i < 24 by omega) (by decide)), q_ix (show 8 * (a % 3) + i < 2147483648 by omega), q_n1]
      rw [if_neg (by rw [show (8 : Int32) = nI 8 from rfl, q_le (by omega) (by omega)]; omega)]
    · intro k hk
      by_cases q : k = i
      · subst q; (try simp (disch := omega) only [g_eq, g_ne, g_R, g_O, g_IR, g_IO, g_RO, g_OO, g_OR, g_RRe, g_RRn]); rw [h2 _ _ _ (by omega), Nat.add_assoc]
      · (try simp (disch := omega) only [g_eq, g_ne, g_R, g_O, g_IR, g_IO, g_RO, g_OO, g_OR, g_RRe, g_RRn]); exact h1 k (by omega)
    · intro k b x q; (try simp (disch := omega) only [g_eq, g_ne, g_R, g_O, g_IR, g_IO, g_RO, g_OO, g_OR, g_RRe, g_RRn]); exact h2 k b x q
  · rintro s ⟨⟨h1, h2, h3⟩, h4⟩
    exact ⟨s, h4, h1, h2, h3⟩
/-- the class's note of the latest, and the relation with the ring -/
theorem s_note {t a K : Nat} {c m s : fST} (hl : rLat t a K c m) (hK : K < 1000000000) {q x0 : Nat} (hq : f_ln q = 8) (q16 : 16 ≤ q) (ring : ∀ k, k < 8 → f_gI s 40 0 (8 * (a % 3) + k) = f_gI c 15 q k) (oth : ∀ x, (x < 8 * (a % 3) ∨ 8 * (a % 3) + 8 ≤ x) → f_gI s 40 0 x = f_gI m 40 0 x) (acc : f_gI s 30 0 15 = nI (a + 1)) : ∃ c' t', F_la_note q c = some ((), c') ∧ rLat t' (a + 1) (K + 1) c' s ∧ (∀ k i j, k ≠ 24 → k ≠ 25 → f_gI c' k i j = f_gI c k i j) ∧ (∀ j, f_gR c' j = f_gR c j) ∧ fC c c' := by
  have ta := hl.ta
  have aK := hl.aK
  have t0 : (f_gI c 24 0 1 ≤ 0) ↔ t = 0 := by rw [hl.tim, show (0 : Int32) = nI 0 from rfl, q_le (by omega) (by omega)]; omega
  have mods : (a + 1 + 2) % 3 = a % 3 ∧ (a + 1 + 1) % 3 = (a + 2) % 3 := by omega
  have a8 : a % 3 < 3 := Nat.mod_lt _ (by decide)
  have ne1 : (a + 1) % 3 ≠ a % 3 := by omega
  have ne2 : (a + 2) % 3 ≠ a % 3 := by omega
  have o1 : ∀ k, k < 8 → f_gI s 40 0 (8 * ((a + 1) % 3) + k) = f_gI m 40 0 (8 * ((a + 1) % 3) + k) := fun k hk => oth _ (by omega)
  have o2 : ∀ k, k < 8 → f_gI s 40 0 (8 * ((a + 2) % 3) + k) = f_gI m 40 0 (8 * ((a + 2) % 3) + k) := fun k hk => oth _ (by omega)
  by_cases like : 1 ≤ t ∧ ∀ k, k < 8 → f_gI c 15 q k = f_gI c 25 0 k
  · refine ⟨f_pI c 24 0 1 (nI (t + 1)), t + 1, ?_, ?_, by (intros; first | rfl | ((try simp (disch := omega) only [g_eq, g_ne, g_R, g_O, g_IR, g_IO, g_RO, g_OO, g_OR, g_RRe, g_RRn]); done) | fail), by (intros; first | rfl | ((try simp (disch := omega) only [g_eq, g_ne, g_R, g_O, g_IR, g_IO, g_RO, g_OO, g_OR, g_RRe, g_RRn]); done) | fail), fC.rfl.put (by decide)⟩
    · unfold F_la_note
      rw [if_neg (by rw [t0]; omega), c_like hq, q_if_pos like.2, q_bd, if_neg one_ne, hl.tim, q_n1]
    · refine rLat.mk ?_ ?_ ?_ ?_ ?_ ?_ ?_ ?_ ?_ ?_
      · (try simp (disch := omega) only [g_eq, g_ne, g_R, g_O, g_IR, g_IO, g_RO, g_OO, g_OR, g_RRe, g_RRn])
      · exact acc
      · omega
      · omega
      · omega
      · intro _ k hk; (try simp (disch := omega) only [g_eq, g_ne, g_R, g_O, g_IR, g_IO, g_RO, g_OO, g_OR, g_RRe, g_RRn]); rw [mods.1, ring k hk]; exact like.2 k hk
      · intro _ k hk; (try simp (disch := omega) only [g_eq, g_ne, g_R, g_O, g_IR, g_IO, g_RO, g_OO, g_OR, g_RRe, g_RRn]); rw [mods.2, o2 k hk]; exact hl.r1 like.1 k hk
      · intro t3 k hk; (try simp (disch := omega) only [g_eq, g_ne, g_R, g_O, g_IR, g_IO, g_RO, g_OO, g_OR, g_RRe, g_RRn]); rw [o1 k hk]; exact hl.r2 (by omega) k hk
      · intro x; omega
      · intro x y
        obtain ⟨k, k8, ne⟩ := hl.d2 (by omega) (by omega)
        exact ⟨k, k8, by (try simp (disch := omega) only [g_eq, g_ne, g_R, g_O, g_IR, g_IO, g_RO, g_OO, g_OR, g_RRe, g_RRn]); rw [o1 k k8]; exact ne⟩
  · have red : F_la_note q c = some ((), f_pI (f_cpL c q) 24 0 1 1) := by
      unfold F_la_note
      by_cases z : t = 0
      · rw [if_pos (t0.mpr z)]; unfold b_la_note_26; rw [q_gd' q16]
      · rw [if_neg (fun y => z (t0.mp y)), c_like hq, q_if_neg (fun y => like ⟨by omega, y⟩), q_bd, if_pos rfl]; unfold b_la_note_26; rw [q_gd' q16]
    refine ⟨_, 1, red, ?_, ?_, by (intros; first | rfl | ((try simp (disch := omega) only [g_eq, g_ne, g_R, g_O, g_IR, g_IO, g_RO, g_OO, g_OR, g_RRe, g_RRn]); done) | fail), ?_⟩
    · have w : ∀ k, k < 8 → f_gI (f_pI (f_cpL c q) 24 0 1 1) 25 0 k = f_gI c 15 q k := fun k hk => by rw [g_ne (by omega), q_cpL, if_pos ⟨rfl, rfl, hk⟩]
      refine rLat.mk ?_ ?_ ?_ ?_ ?_ ?_ ?_ ?_ ?_ ?_
      · (try simp (disch := omega) only [g_eq, g_ne, g_R, g_O, g_IR, g_IO, g_RO, g_OO, g_OR, g_RRe, g_RRn]); rfl
      · exact acc
      · omega
      · omega
      · omega
      · intro _ k hk; rw [w k hk, mods.1, ring k hk]
      · intro x; omega
      · intro x; omega
      · intro _ a2
        have tp := hl.a0 (by omega)
        have : ∃ k, k < 8 ∧ ¬ f_gI c 15 q k = f_gI c 25 0 k := by
          apply Classical.byContradiction
          intro no
          apply like
          refine ⟨by omega, fun k hk => ?_⟩
          apply Classical.byContradiction
          intro y
          exact no ⟨k, hk, y⟩
        obtain ⟨k, hk, ne⟩ := this
        refine ⟨k, hk, ?_⟩
        rw [w k hk, mods.2, o2 k hk, hl.r1 (by omega) k hk]
        exact fun y => ne y.symm
      · intro x; omega
    · intro k i j k1 k2; rw [g_ne (by omega), q_cpn k2]
    · intro k i j hk; rw [g_ne (by omega), q_cpn (by omega)]
theorem m_kind2 {c m m' : fST} (h : rCat c m) (h' : rCat c m') {x v : Int32} (hv : F_m_kindOf x m = some (v, m)) : F_m_kindOf x m' = some (v, m') := by
  rcases s_kind h x with ⟨p1, p2⟩ | ⟨k, _, p1, p2⟩ <;> rcases s_kind h' x with ⟨r1, r2⟩ | ⟨l, _, r1, r2⟩ <;> rw [p2] at hv <;> cases hv <;> rw [r2] <;> rw [p1] at r1 <;> injection r1 with r1 <;> injection r1 with r1 _ <;> rw [r1]
theorem s_judge {e K N : Nat} {c m : fST} (h : rAll e K N c m) (hon : f_gI c 23 0 2 = 1) (hK : K + 1 ≤ 1000000000) {j : Nat} (jN : j < N) (fr : (f_gI c 13 (f_gR c j) 4).toInt < 105) (r60 : 60 ≤ (f_gI c 13 (f_gR c j) 4).toInt - (f_gI c 13 (f_gR c j) 3).toInt) (kn : f_gI c 13 (f_gR c j) 7 = -1) : ∃ c' m', F_b_judge (f_gR c j) c = some ((), c') ∧ F_m_judge (nI j) m = some ((), m') ∧ rAll e (K + 1) N c' m' ∧ jS c c' m m' := by
  have n13 := h.belt.n13
  have j60 : j < 60 := by omega
  have up : ∀ {c' m' : fST}, rAll e K N c' m' → rAll e (K + 1) N c' m' := fun x => x.to (Nat.le_refl _) x.e5 (by omega) hK (by (intros; first | rfl | ((try simp (disch := omega) only [g_eq, g_ne, g_R, g_O, g_IR, g_IO, g_RO, g_OO, g_OR, g_RRe, g_RRn]); done) | fail)) (by (intros; first | rfl | ((try simp (disch := omega) only [g_eq, g_ne, g_R, g_O, g_IR, g_IO, g_RO, g_OO, g_OR, g_RRe, g_RRn]); done) | fail)) (by (intros; first | rfl | ((try simp (disch := omega) only [g_eq, g_ne, g_R, g_O, g_IR, g_IO, g_RO, g_OO, g_OR, g_RRe, g_RRn]); done) | fail))
  obtain ⟨kd, v, v', a1, a2, a3, a4⟩ := s_against h jN
  rcases a4 with ⟨rfl, rfl, ⟨k, k40, rfl⟩, kk, w8⟩ | ⟨q, q1, q9, rfl, rfl⟩
  · rcases s_write h hon with ⟨c1, m1, h1, h2, h3, h4, h5, h6, h7, h8, h9⟩ | ⟨c1, m1, h1, h2, h3, h4, h5, h6, h7, h8, h9⟩
    · refine ⟨c1, m1, ?_, ?_, up h3, fun i f _ _ => h5 _ _ _ (by decide), h6, h7, h8, h9⟩
      · rw [c_judge a1 a2]; unfold b_b_judge_29; rw [if_pos rfl, h1, q_bd, if_pos rfl]
      · unfold F_m_judge; rw [a3, q_bd, if_pos (by decide), h2, q_bd, if_pos rfl]
    · obtain ⟨e5, K9, cat, belt, bins, ⟨V, vou⟩, jou, ⟨t, a, lat⟩, tot, mon⟩ := h3
      have aK := lat.aK
      have row := belt.row j jN
      have ok := belt.ok j jN
      have nc := ok.nc2
      have nw := ok.nw2
      have er : f_gR c1 j = f_gR c j := h6 j
      rw [er] at row ok
      have fr1 : (f_gI c1 13 (f_gR c j) 4).toInt < 105 := by rw [h5 _ _ _ (by decide)]; exact fr
      have r61 : 60 ≤ (f_gI c1 13 (f_gR c j) 4).toInt - (f_gI c1 13 (f_gR c j) 3).toInt := by rw [h5 _ _ _ (by decide), h5 _ _ _ (by decide)]; exact r60
      have w81 : f_gI c1 14 (f_gR c j + 16) 1 = nI 8 := by rw [h5 _ _ _ (by decide)]; exact w8
      have lt : f_gR c j < 16 := h.belt.rlt j (by omega)
      generalize hp : f_gR c j = p at *
      have ln : f_ln (p + 16) = 8 := if_neg (by omega)
      -- the two memories with the verdict in them
      have cat2 : rCat c1 (f_pI m1 34 0 (20 * j + 3) 10) := cat.to (by (intros; first | rfl | ((try simp (disch := omega) only [g_eq, g_ne, g_R, g_O, g_IR, g_IO, g_RO, g_OO, g_OR, g_RRe, g_RRn]); done) | fail)) (by (intros; first | rfl | ((try simp (disch := omega) only [g_eq, g_ne, g_R, g_O, g_IR, g_IO, g_RO, g_OO, g_OR, g_RRe, g_RRn]); done) | fail))
      have kk1 : F_m_kindOf (f_gI m 34 0 (20 * j + 9)) (f_pI m1 34 0 (20 * j + 3) 10) = some (nI k, f_pI m1 34 0 (20 * j + 3) 10) := by
        have c0 : rCat c (f_pI m1 34 0 (20 * j + 3) 10) := cat2.to (fun k i j _ _ => (h5 _ _ _ (by omega)).symm) (by (intros; first | rfl | ((try simp (disch := omega) only [g_eq, g_ne, g_R, g_O, g_IR, g_IO, g_RO, g_OO, g_OR, g_RRe, g_RRn]); done) | fail))
        exact m_kind2 h.cat c0 kk
      have e9 : f_gI (f_pI m1 34 0 (20 * j + 3) 10) 34 0 (20 * j + 9) = f_gI m 34 0 (20 * j + 9) := by (try simp (disch := omega) only [g_eq, g_ne, g_R, g_O, g_IR, g_IO, g_RO, g_OO, g_OR, g_RRe, g_RRn]); exact h9 _ _ _ (by omega)
      obtain ⟨s, s1, s2, s3, s4⟩ := m_ring (m := f_pI (f_pI m1 34 0 (20 * j + 3) 10) 34 0 (20 * j + 4) (nI k)) (j := j) (a := a) j60 (by omega) (by (try simp (disch := omega) only [g_eq, g_ne, g_R, g_O, g_IR, g_IO, g_RO, g_OO, g_OR, g_RRe, g_RRn]); exact lat.acc)
      have lat2 : rLat t a K (f_pI (f_pI c1 13 p 6 10) 13 p 7 (nI k)) (f_pI (f_pI m1 34 0 (20 * j + 3) 10) 34 0 (20 * j + 4) (nI k)) := lat.to (Nat.le_refl _) (by (intros; first | rfl | ((try simp (disch := omega) only [g_eq, g_ne, g_R, g_O, g_IR, g_IO, g_RO, g_OO, g_OR, g_RRe, g_RRn]); done) | fail)) (by (intros; first | rfl | ((try simp (disch := omega) only [g_eq, g_ne, g_R, g_O, g_IR, g_IO, g_RO, g_OO, g_OR, g_RRe, g_RRn]); done) | fail)) (by (intros; first | rfl | ((try simp (disch := omega) only [g_eq, g_ne, g_R, g_O, g_IR, g_IO, g_RO, g_OO, g_OR, g_RRe, g_RRn]); done) | fail))
      have wd : ∀ i, i < 8 → f_gI c1 15 (p + 16) i = f_gI m1 34 0 (20 * j + 12 + i) := fun i hi => row.wds i (by rw [w81, q_tn (by omega)]; omega)
      obtain ⟨c3, t', n1, n2, n3, n4, n5⟩ := s_note (s := f_pI s 30 0 15 (nI (a + 1))) lat2 (by omega) (q := p + 16) (x0 := 0) ln (by omega) (by intro k hk; (try simp (disch := omega) only [g_eq, g_ne, g_R, g_O, g_IR, g_IO, g_RO, g_OO, g_OR, g_RRe, g_RRn]); rw [s2 k hk]; (try simp (disch := omega) only [g_eq, g_ne, g_R, g_O, g_IR, g_IO, g_RO, g_OO, g_OR, g_RRe, g_RRn]); exact (wd k hk).symm) (by intro x hx; (try simp (disch := omega) only [g_eq, g_ne, g_R, g_O, g_IR, g_IO, g_RO, g_OO, g_OR, g_RRe, g_RRn]); exact s3 _ _ _ (by omega)) (by (try simp (disch := omega) only [g_eq, g_ne, g_R, g_O, g_IR, g_IO, g_RO, g_OO, g_OR, g_RRe, g_RRn]))
      refine ⟨c3, f_pI s 30 0 15 (nI (a + 1)), ?_, ?_, ?_, ?_⟩
      · rw [c_judge a1 a2]; unfold b_b_judge_29; rw [if_pos rfl, h1, q_bd, if_neg one_ne, n1, q_bd]
      · unfold F_m_judge
        rw [a3, q_bd, if_pos (by decide), h2, q_bd, if_neg one_ne, show (3 : Int32) = nI 3 from rfl, m_put (by omega), q_bd, m_g9 j60, q_bd, e9, kk1, q_bd, show (4 : Int32) = nI 4 from rfl, m_put (by omega), q_bd]
        exact s1
      · have hc : ∀ k i f, k ≠ 24 → k ≠ 25 → (k ≠ 13 ∨ i ≠ p ∨ (f ≠ 6 ∧ f ≠ 7)) → f_gI c3 k i f = f_gI c1 k i f := fun k i f x y w => by rw [n3 k i f x y]; (try simp (disch := omega) only [g_eq, g_ne, g_R, g_O, g_IR, g_IO, g_RO, g_OO, g_OR, g_RRe, g_RRn])
        have hr : ∀ i, f_gR c3 i = f_gR c1 i := fun i => n4 i
        have hs : ∀ k i f, (k ≠ 40) → (k ≠ 34 ∨ (f ≠ 20 * j + 3 ∧ f ≠ 20 * j + 4)) → f_gI s k i f = f_gI m1 k i f := fun k i f x y => by rw [s3 k i f (Or.inl x)]; (try simp (disch := omega) only [g_eq, g_ne, g_R, g_O, g_IR, g_IO, g_RO, g_OO, g_OR, g_RRe, g_RRn])
        have c6 : f_gI c3 13 p 6 = 10 := by rw [n3 _ _ _ (by decide) (by decide)]; (try simp (disch := omega) only [g_eq, g_ne, g_R, g_O, g_IR, g_IO, g_RO, g_OO, g_OR, g_RRe, g_RRn])
        have c7 : f_gI c3 13 p 7 = nI k := by rw [n3 _ _ _ (by decide) (by decide)]; (try simp (disch := omega) only [g_eq, g_ne, g_R, g_O, g_IR, g_IO, g_RO, g_OO, g_OR, g_RRe, g_RRn])
        have m3 : f_gI s 34 0 (20 * j + 3) = 10 := by rw [s3 _ _ _ (by omega)]; (try simp (disch := omega) only [g_eq, g_ne, g_R, g_O, g_IR, g_IO, g_RO, g_OO, g_OR, g_RRe, g_RRn])
        have m4 : f_gI s 34 0 (20 * j + 4) = nI k := by rw [s3 _ _ _ (by omega)]; (try simp (disch := omega) only [g_eq, g_ne, g_R, g_O, g_IR, g_IO, g_RO, g_OO, g_OR, g_RRe, g_RRn])
        have tk : (nI k).toInt = k := q_tn (by omega)
        refine rAll.mk e5 hK ?_ ?_ ?_ (⟨V, ?_⟩) ?_ (⟨t', a + 1, n2⟩) ?_ ?_
        · exact cat.to (fun k i f _ _ => hc _ _ _ (by omega) (by omega) (by omega)) (fun k i f _ _ => by (try simp (disch := omega) only [g_eq, g_ne, g_R, g_O, g_IR, g_IO, g_RO, g_OO, g_OR, g_RRe, g_RRn]); exact hs _ _ _ (by omega) (by omega))
        · refine belt.upd jN (fun i => hc _ _ _ (by omega) (by omega) (by omega)) hr ?_ (by (try simp (disch := omega) only [g_eq, g_ne, g_R, g_O, g_IR, g_IO, g_RO, g_OO, g_OR, g_RRe, g_RRn]); exact hs _ _ _ (by omega) (by omega)) (by (try simp (disch := omega) only [g_eq, g_ne, g_R, g_O, g_IR, g_IO, g_RO, g_OO, g_OR, g_RRe, g_RRn]); exact hs _ _ _ (by omega) (by omega)) (fun x hx => by (try simp (disch := omega) only [g_eq, g_ne, g_R, g_O, g_IR, g_IO, g_RO, g_OO, g_OR, g_RRe, g_RRn]); exact hs _ _ _ (by omega) (by omega)) ?_ ?_ ?_ ?_
          · rw [er]; intro k i f _ _ ne _; exact hc _ _ _ (by omega) (by omega) (by omega)
          · rw [er]
            refine rRow.mk ?_ ?_ ?_ ?_ ?_ ?_ ?_ ?_ ?_ ?_ ?_
            · rw [hc _ _ _ (by omega) (by omega) (by omega)]; (try simp (disch := omega) only [g_eq, g_ne, g_R, g_O, g_IR, g_IO, g_RO, g_OO, g_OR, g_RRe, g_RRn]); rw [hs _ _ _ (by omega) (by omega)]; exact row.num
            · rw [hc _ _ _ (by omega) (by omega) (by omega)]; (try simp (disch := omega) only [g_eq, g_ne, g_R, g_O, g_IR, g_IO, g_RO, g_OO, g_OR, g_RRe, g_RRn]); rw [hs _ _ _ (by omega) (by omega)]; exact row.len
            · rw [hc _ _ _ (by omega) (by omega) (by omega)]; (try simp (disch := omega) only [g_eq, g_ne, g_R, g_O, g_IR, g_IO, g_RO, g_OO, g_OR, g_RRe, g_RRn]); rw [hs _ _ _ (by omega) (by omega)]; exact row.fro
            · rw [c6]; (try simp (disch := omega) only [g_eq, g_ne, g_R, g_O, g_IR, g_IO, g_RO, g_OO, g_OR, g_RRe, g_RRn]); rw [m3]
            · rw [c7]; (try simp (disch := omega) only [g_eq, g_ne, g_R, g_O, g_IR, g_IO, g_RO, g_OO, g_OR, g_RRe, g_RRn]); rw [m4]
            · rw [hc _ _ _ (by omega) (by omega) (by omega)]; (try simp (disch := omega) only [g_eq, g_ne, g_R, g_O, g_IR, g_IO, g_RO, g_OO, g_OR, g_RRe, g_RRn]); rw [hs _ _ _ (by omega) (by omega)]; exact row.pai
            · rw [hc _ _ _ (by omega) (by omega) (by omega)]; (try simp (disch := omega) only [g_eq, g_ne, g_R, g_O, g_IR, g_IO, g_RO, g_OO, g_OR, g_RRe, g_RRn]); rw [hs _ _ _ (by omega) (by omega)]; exact row.wei
            · rw [hc _ _ _ (by omega) (by omega) (by omega)]; (try simp (disch := omega) only [g_eq, g_ne, g_R, g_O, g_IR, g_IO, g_RO, g_OO, g_OR, g_RRe, g_RRn]); rw [hs _ _ _ (by omega) (by omega)]; exact row.ncd
            · rw [hc _ _ _ (by omega) (by omega) (by omega)]; (try simp (disch := omega) only [g_eq, g_ne, g_R, g_O, g_IR, g_IO, g_RO, g_OO, g_OR, g_RRe, g_RRn]); rw [hs _ _ _ (by omega) (by omega)]; exact row.nwd
            · intro i hi
              rw [hc _ _ _ (by omega) (by omega) (by omega)] at hi ⊢
              (try simp (disch := omega) only [g_eq, g_ne, g_R, g_O, g_IR, g_IO, g_RO, g_OO, g_OR, g_RRe, g_RRn]); rw [hs _ _ _ (by omega) (by omega)]; exact row.cds i hi
            · intro i hi
              rw [hc _ _ _ (by omega) (by omega) (by omega)] at hi ⊢
              (try simp (disch := omega) only [g_eq, g_ne, g_R, g_O, g_IR, g_IO, g_RO, g_OO, g_OR, g_RRe, g_RRn]); rw [hs _ _ _ (by omega) (by omega)]; exact row.wds i hi
          · rw [er]
            refine rOk.mk ?_ ?_ ?_ ?_ ?_ ?_ ?_ ?_ ?_ ?_ ?_ ?_
            · rw [hc _ _ _ (by omega) (by omega) (by omega)]; exact ok.ln1
            · rw [hc _ _ _ (by omega) (by omega) (by omega)]; exact ok.ln2
            · rw [hc _ _ _ (by omega) (by omega) (by omega)]; exact ok.nc1
            · rw [hc _ _ _ (by omega) (by omega) (by omega)]; exact ok.nc2
            · rw [hc _ _ _ (by omega) (by omega) (by omega)]; exact ok.nw1
            · rw [hc _ _ _ (by omega) (by omega) (by omega)]; exact ok.nw2
            · rw [c6, c7]; right; exact ⟨by omega, by omega, rfl⟩
            · rw [hc _ _ _ (by omega) (by omega) (by omega)]; exact ok.p01
            · rw [hc _ _ _ (by omega) (by omega) (by omega)]; exact ok.fr0
            · rw [hc _ _ _ (by omega) (by omega) (by omega), hc _ _ _ (by omega) (by omega) (by omega)]; exact ok.fr1
            · rw [c6]; intro _; rfl
            · rw [hc _ _ _ (by omega) (by omega) (by omega), hc _ _ _ (by omega) (by omega) (by omega)]; intro x; omega
          · rw [er]; exact hc _ _ _ (by omega) (by omega) (by omega)
          · rw [er]; exact hc _ _ _ (by omega) (by omega) (by omega)
        · exact bins.to (fun k i f _ _ => hc _ _ _ (by omega) (by omega) (by omega)) (fun k i f _ _ => by (try simp (disch := omega) only [g_eq, g_ne, g_R, g_O, g_IR, g_IO, g_RO, g_OO, g_OR, g_RRe, g_RRn]); exact hs _ _ _ (by omega) (by omega))
        · exact vou.to (fun k i f _ _ => hc _ _ _ (by omega) (by omega) (by omega)) (fun k i f _ _ => by (try simp (disch := omega) only [g_eq, g_ne, g_R, g_O, g_IR, g_IO, g_RO, g_OO, g_OR, g_RRe, g_RRn]); exact hs _ _ _ (by omega) (by omega)) (by (try simp (disch := omega) only [g_eq, g_ne, g_R, g_O, g_IR, g_IO, g_RO, g_OO, g_OR, g_RRe, g_RRn]); exact hs _ _ _ (by omega) (by omega)) (by (try simp (disch := omega) only [g_eq, g_ne, g_R, g_O, g_IR, g_IO, g_RO, g_OO, g_OR, g_RRe, g_RRn]); exact hs _ _ _ (by omega) (by omega)) (by (try simp (disch := omega) only [g_eq, g_ne, g_R, g_O, g_IR, g_IO, g_RO, g_OO, g_OR, g_RRe, g_RRn]); exact hs _ _ _ (by omega) (by omega))
        · exact jou.to (fun f => hc _ _ _ (by omega) (by omega) (by omega)) (by (try simp (disch := omega) only [g_eq, g_ne, g_R, g_O, g_IR, g_IO, g_RO, g_OO, g_OR, g_RRe, g_RRn]); exact hs _ _ _ (by omega) (by omega)) (by (try simp (disch := omega) only [g_eq, g_ne, g_R, g_O, g_IR, g_IO, g_RO, g_OO, g_OR, g_RRe, g_RRn]); exact hs _ _ _ (by omega) (by omega)) (by (try simp (disch := omega) only [g_eq, g_ne, g_R, g_O, g_IR, g_IO, g_RO, g_OO, g_OR, g_RRe, g_RRn]); exact hs _ _ _ (by omega) (by omega))
        · exact tot.to (fun f _ _ => hc _ _ _ (by omega) (by omega) (by omega)) (fun f => hc _ _ _ (by omega) (by omega) (by omega)) (fun f => by (try simp (disch := omega) only [g_eq, g_ne, g_R, g_O, g_IR, g_IO, g_RO, g_OO, g_OR, g_RRe, g_RRn]); exact hs _ _ _ (by omega) (by omega)) (by (try simp (disch := omega) only [g_eq, g_ne, g_R, g_O, g_IR, g_IO, g_RO, g_OO, g_OR, g_RRe, g_RRn]); exact hs _ _ _ (by omega) (by omega)) (by (try simp (disch := omega) only [g_eq, g_ne, g_R, g_O, g_IR, g_IO, g_RO, g_OO, g_OR, g_RRe, g_RRn]); exact hs _ _ _ (by omega) (by omega)) (by (try simp (disch := omega) only [g_eq, g_ne, g_R, g_O, g_IR, g_IO, g_RO, g_OO, g_OR, g_RRe, g_RRn]); exact hs _ _ _ (by omega) (by omega)) (by (try simp (disch := omega) only [g_eq, g_ne, g_R, g_O, g_IR, g_IO, g_RO, g_OO, g_OR, g_RRe, g_RRn]); exact hs _ _ _ (by omega) (by omega)) (by (try simp (disch := omega) only [g_eq, g_ne, g_R, g_O, g_IR, g_IO, g_RO, g_OO, g_OR, g_RRe, g_RRn]); exact hs _ _ _ (by omega) (by omega))
        · exact mon.upd (Nat.le_refl _) (fun f => hc _ _ _ (by omega) (by omega) (by omega)) (fun f => hc _ _ _ (by omega) (by omega) (by omega)) hr (fun i _ => hc _ _ _ (by omega) (by omega) (by omega))
      · refine ⟨?_, ?_, ?_, ?_, ?_⟩
        · intro i f f6 f7; rw [n3 _ _ _ (by decide) (by decide)]; (try simp (disch := omega) only [g_eq, g_ne, g_R, g_O, g_IR, g_IO, g_RO, g_OO, g_OR, g_RRe, g_RRn]); exact h5 _ _ _ (by decide)
        · intro i; rw [n4]; exact h6 i
        · exact ((h7.put (by decide)).put (by decide)).trans n5
        · exact (((h8.put (by decide)).put (by decide)).trans s4).put (by decide)
        · (try simp (disch := omega) only [g_eq, g_ne, g_R, g_O, g_IR, g_IO, g_RO, g_OO, g_OR, g_RRe, g_RRn]); rw [s3 _ _ _ (by omega)]; (try simp (disch := omega) only [g_eq, g_ne, g_R, g_O, g_IR, g_IO, g_RO, g_OO, g_OR, g_RRe, g_RRn]); exact h9 _ _ _ (by omega)
  · refine ⟨_, _, ?_, ?_, up (s_refuse h jN q1 q9 fr kn), ?_⟩
    · rw [c_judge a1 a2]
      unfold b_b_judge_29
      rw [if_neg (by rw [show (10 : Int32) = nI 10 from rfl, q_eq (by omega) (by omega)]; omega), q_gd (q_ib (show q < 10 by omega) (by decide)), q_gd (q_ib (show q < 10 by omega) (by decide)), q_ix (by omega)]
      (try simp (disch := omega) only [g_eq, g_ne, g_R, g_O, g_IR, g_IO, g_RO, g_OO, g_OR, g_RRe, g_RRn])
    · unfold F_m_judge
      rw [a3, q_bd, if_neg (by rw [show (0 : Int32) = nI 0 from rfl, q_le (by omega) (by omega)]; omega), show (3 : Int32) = nI 3 from rfl, m_put (by omega), q_bd, q_gd (q_ib (show q < 10 by omega) (by decide)), q_gd (q_ib (show q < 10 by omega) (by decide)), q_ix (by omega)]
      (try simp (disch := omega) only [g_eq, g_ne, g_R, g_O, g_IR, g_IO, g_RO, g_OO, g_OR, g_RRe, g_RRn])
    · refine ⟨by (intros; first | rfl | ((try simp (disch := omega) only [g_eq, g_ne, g_R, g_O, g_IR, g_IO, g_RO, g_OO, g_OR, g_RRe, g_RRn]); done) | fail), by (intros; first | rfl | ((try simp (disch := omega) only [g_eq, g_ne, g_R, g_O, g_IR, g_IO, g_RO, g_OO, g_OR, g_RRe, g_RRn]); done) | fail), (fC.rfl.put (by decide)).put (by decide), (fM.rfl.put (by decide)).put (by decide), by (try simp (disch := omega) only [g_eq, g_ne, g_R, g_O, g_IR, g_IO, g_RO, g_OO, g_OR, g_RRe, g_RRn])⟩
